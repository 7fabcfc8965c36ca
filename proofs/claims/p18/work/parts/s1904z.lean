set_option maxHeartbeats 4000000 in
set_option maxRecDepth 100000 in
/-- sx_enterSale -/
theorem sx_enterSale (l : Launch) (dC : Nat → ClassId) (dI : Nat → Nat → Nat) (cs : Nat → ClassId) (ad : Nat → Nat) (mu : Nat → Nat → Int32) (ok : okR loX hiX mu) (H : Heap) (hP : va_P (dC, dI) vwCl (wR 157 ad (EX cs ad) mu) H) (hD0 : va_D (fun _ => True) (wR 157 ad (EX cs ad) mu)) (vk : Int32) (vx : Int32) (hin0 : 0 ≤ vk.toInt ∧ vk.toInt ≤ 3 ∧ 0 ≤ vx.toInt ∧ vx.toInt ≤ 6) (hin1 : (mu 6 1).toInt ≤ 39) : Met l yX2_enterSale (wU yX2_enterSale cX2_enterSale 7 (some .int)) ({ frames := 2, cells := 0, slots := 0, locals := 60 }) (va_Pc [.ref (ad 6), .ref (ad 4), .int vk, .int vx] (sz_P (dC, dI) vwCl (tyW cs) H)) (va_Qi (fun (z : Int32) (xi : Nat → Nat → Int32) => (z, xi) = F_sx_enterSale mu vk vx ∧ okR loX hiX xi ∧ (True) ∧ (∀ k f : Nat, Nat.testBit 486 (gpX k f) = true → xi k f = mu k f)) (fun xi t => va_P (dC, dI) vwCl (wR 157 ad (EX cs ad) xi) t.heap) (va_A (wR 157 ad (EX cs ad) mu) H.size)) 0 0 (va_A (wR 157 ad (EX cs ad) mu) H.size) := by
  refine Met.ofW (cc := cX2_enterSale) (maxL := 7) (ret := (some .int)) (by decide) rfl ?_
  intro p e s m args below meth c s₁ B hml hv
  obtain ⟨rfl, hh, hK, hz⟩ := hv
  have hx := B.exec
  have hb := B.bytes
  have hr := B.returns
  have hts := atoms_spec (ws := (wU yX2_enterSale cX2_enterSale 7 (some .int))) B.pre
  have hown : s.vm.findClass RX2 = some m.cls := findClass_of_methodNamed B.named
  have hlocks := B.notSynchronized
  subst hh
  have hD := hD0.self (sz := s.heap.size)
  have hA : ∀ q : Nat, s.heap.size ≤ q → (va_A (wR 157 ad (EX cs ad) mu) s.heap.size) q := fun q h => Or.inr h
  have hS : va_S (va_A (wR 157 ad (EX cs ad) mu) s.heap.size) s.heap s.heap [] := va_S.rf
  have hl := lv_entry ([.ref (ad 6), .ref (ad 4), .int vk, .int vx]) (n := 7) (Nat.le_of_ble_eq_true rfl)
  rw [lg_entry_eq]
  generalize (lg_sl ([.ref (ad 6), .ref (ad 4), .int vk, .int vx]) ++ List.replicate (7 - (lg_sl ([.ref (ad 6), .ref (ad 4), .int vk, .int vx])).length) Slot.unset).toArray = ls at hl ⊢
  have hl : lv_has ls 7 [(0, .ref (ad 6)), (1, .ref (ad 4)), (2, .int vk), (3, .int vx)] := hl
  obtain ⟨fz, hfz⟩ : ∃ z, F_sx_enterSale mu vk vx = z := ⟨_, rfl⟩
  have hF := hfz
  unfold F_sx_enterSale at hF
  refine lv_aload_n hx hb dX2_enterSale_0 rfl (lv_at hl 1 rfl) ?_
  refine va_get (D := (dC, dI)) (ci := 10) (v := .ref (ad 5)) (C := RX10) (T := TX10) (N := 8) hx hb hts inG10 hown hK hP 4 (gX_4 cs ad mu) rfl 3 (by decide) (hts _ (List.mem_cons_of_mem _ mw_1_154)) (fun _ h9 => h9) rfl dX2_enterSale_1 ?_
  refine va_get (D := (dC, dI)) (ci := 8) (v := .ref (ad 47)) (C := RX8) (T := TX8) (N := 6) hx hb hts inG8 hown hK hP 5 (gX_5 cs ad mu) rfl 1 (by decide) (hts _ (List.mem_cons_of_mem _ mw_1_110)) (fun _ h9 => h9) rfl dX2_enterSale_4 ?_
  refine lv_iload_n hx hb dX2_enterSale_7 rfl (lv_at hl 2 rfl) ?_
  have hx1 : 0 ≤ vk.toInt ∧ vk.toInt < ((4 : Nat) : Int) := ⟨by omega, by omega⟩
  refine va_aldq hx hb hK hP 47 5 (gX_47 cs ad mu) rfl (show vp_in vk 4 from vi_of hx1.1 hx1.2) dX2_enterSale_8 ?_
  have hk1 : 61 ≤ (61 + vk.toNatClampNeg) ∧ (61 + vk.toNatClampNeg) < 65 := ix_of hx1
  have hk1 : 61 ≤ (61 + vk.toNatClampNeg) ∧ (61 + vk.toNatClampNeg) < 77 := ⟨Nat.le_trans (by decide) hk1.1, Nat.lt_of_lt_of_le hk1.2 (by decide)⟩
  refine lq_v (.ref (ad (61 + vk.toNatClampNeg))) rfl ?_
  refine lv_astore (lv' := [(4, .ref (ad (61 + vk.toNatClampNeg))), (0, .ref (ad 6)), (1, .ref (ad 4)), (2, .int vk), (3, .int vx)]) hx hb dX2_enterSale_9 hl (by decide) rfl (fun ls hl => ?_)
  refine lv_aload_n hx hb dX2_enterSale_11 rfl (lv_at hl 2 rfl) ?_
  refine lv_aload hx hb dX2_enterSale_12 (lv_at hl 0 rfl) ?_
  refine cr_i (va_runV (As := [.ref (ad (61 + vk.toNatClampNeg))]) (rest := []) ⟨hx, hb, hml, hown, hts⟩ (sx_priceOf l dC dI cs ad mu ok s.heap hP (61 + vk.toNatClampNeg) hk1.1 hk1.2) (cwV 1 hts (wU_V mw_3_165 mw_3_183 mw_3_163 mw_3_164 mw_1_2) rfl rfl rfl (by decide +kernel) ⟨Nat.le_of_ble_eq_true rfl, Nat.le_of_ble_eq_true rfl⟩) ⟨sz_c, va_recv hK hP (ci := 10) (q0 := 4) rfl (gX_4 cs ad mu), sz_m hK hz⟩ rfl rfl hl.1 rfl (lv_room (Nat.le_of_ble_eq_true rfl)) dX2_enterSale_14 ⟨Nat.zero_le _, Nat.zero_le _⟩) hS (fun r2 hw2 locs hS => ?_)
  obtain ⟨hfe2, hw2⟩ := hw2
  have hF := mi_let hF hfe2
  refine lv_istore (lv' := [(5, .int r2), (4, .ref (ad (61 + vk.toNatClampNeg))), (0, .ref (ad 6)), (1, .ref (ad 4)), (2, .int vk), (3, .int vx)]) hx hb dX2_enterSale_17 hl (by decide) rfl (fun ls hl => ?_)
  refine lv_aload_n hx hb dX2_enterSale_19 rfl (lv_at hl 2 rfl) ?_
  refine va_get (D := (dC, dI)) (ci := 2) (v := .ref (ad 39)) (C := RX2) (T := TX2) (N := 2) hx hb hts inG2 hown hK hP 6 (gX_6 cs ad mu) rfl 0 (by decide) (hts _ (List.mem_cons_of_mem _ mw_2_6)) (fun _ h9 => h9) rfl dX2_enterSale_20 ?_
  refine lv_aload_n hx hb dX2_enterSale_23 rfl (lv_at hl 2 rfl) ?_
  refine va_get (D := (dC, dI)) (ci := 2) (v := .int (mu 6 1)) (C := RX2) (T := TX2) (N := 2) hx hb hts inG2 hown hK hP 6 (gX_6 cs ad mu) rfl 1 (by decide) (hts _ (List.mem_cons_of_mem _ mw_2_7)) (fun _ h9 => h9) rfl dX2_enterSale_24 ?_
  refine lv_topi (fun y3 ey3 => ?_)
  have hF := mi_let hF ey3
  have by3 : y3.toInt = (mu 6 1).toInt := congrArg Int32.toInt ey3
  have gy3 : 0 ≤ y3.toInt ∧ y3.toInt ≤ 40 := by rw [ey3]; exact rX_6_1 ok
  have hx4 : 0 ≤ y3.toInt ∧ y3.toInt < ((40 : Nat) : Int) := ⟨by omega, by omega⟩
  refine va_aldq hx hb hK hP 39 6 (gX_39 cs ad mu) rfl (show vp_in y3 40 from vi_of hx4.1 hx4.2) dX2_enterSale_27 ?_
  have hk4 : 77 ≤ (77 + y3.toNatClampNeg) ∧ (77 + y3.toNatClampNeg) < 117 := ix_of hx4
  refine lq_v (.ref (ad (77 + y3.toNatClampNeg))) rfl ?_
  refine lv_astore (lv' := [(6, .ref (ad (77 + y3.toNatClampNeg))), (5, .int r2), (4, .ref (ad (61 + vk.toNatClampNeg))), (0, .ref (ad 6)), (1, .ref (ad 4)), (2, .int vk), (3, .int vx)]) hx hb dX2_enterSale_28 hl (by decide) rfl (fun ls hl => ?_)
  refine lv_aload_n hx hb dX2_enterSale_30 rfl (lv_at hl 4 rfl) ?_
  refine va_get (D := (dC, dI)) (ci := 10) (v := .ref (ad 5)) (C := RX10) (T := TX10) (N := 8) hx hb hts inG10 hown hK hP 4 (gX_4 cs ad mu) rfl 3 (by decide) (hts _ (List.mem_cons_of_mem _ mw_1_154)) (fun _ h9 => h9) rfl dX2_enterSale_31 ?_
  refine va_get (D := (dC, dI)) (ci := 8) (v := .ref (ad 46)) (C := RX8) (T := TX8) (N := 6) hx hb hts inG8 hown hK hP 5 (gX_5 cs ad mu) rfl 0 (by decide) (hts _ (List.mem_cons_of_mem _ mw_1_105)) (fun _ h9 => h9) rfl dX2_enterSale_34 ?_
  refine lv_iconst (v := 0) hx hb dX2_enterSale_37 (by decide) ?_
  refine lv_aload hx hb dX2_enterSale_38 (lv_at hl 0 rfl) ?_
  have hk5 : 117 ≤ (77 + y3.toNatClampNeg) + 40 ∧ (77 + y3.toNatClampNeg) + 40 < 157 := add_in 40 hk4.1 hk4.2
  refine va_get (D := (dC, dI)) (ci := 7) (v := .ref (ad ((77 + y3.toNatClampNeg) + 40))) (C := RX7) (T := TX7) (N := 7) hx hb hts inG7 hown hK hP (77 + y3.toNatClampNeg) (gX_sale cs ad mu (77 + y3.toNatClampNeg) hk4.1 hk4.2) rfl 0 (by decide) (hts _ (List.mem_cons_of_mem _ mw_1_224)) (fun _ h9 => h9) rfl dX2_enterSale_40 ?_
  refine lv_iconst (v := 0) hx hb dX2_enterSale_43 (by decide) ?_
  refine lv_bipush (v := 7) hx hb dX2_enterSale_44 (by decide) ?_
  refine va_copyi hx hb (hml.trans hl.1.symm) hown (hts _ (List.mem_cons_of_mem _ mw_3_184)) (hts _ (List.mem_cons_of_mem _ mw_3_4)) (hts _ (List.mem_cons_of_mem _ mw_3_3)) (hts _ (List.mem_cons_of_mem _ mw_1_15)) hK hP (wR_D mu hD) hS 46 ((77 + y3.toNatClampNeg) + 40) 0 0 (gX_46 cs ad mu) (gX_spurses cs ad mu ((77 + y3.toNatClampNeg) + 40) hk5.1 hk5.2) rfl rfl rfl (by decide) (by decide) (by decide) (by have ua : ((0 : Int32).toNatClampNeg : Int) = 0 := rfl; have ub : ((0 : Int32).toNatClampNeg : Int) = 0 := rfl; have uc : ((7 : Int32).toNatClampNeg : Int) = 7 := rfl; omega) (by have ua : ((0 : Int32).toNatClampNeg : Int) = 0 := rfl; have ub : ((0 : Int32).toNatClampNeg : Int) = 0 := rfl; have uc : ((7 : Int32).toNatClampNeg : Int) = 7 := rfl; omega) (fun _ _ => rfl) (Nat.le_of_ble_eq_true rfl) (Nat.le_of_ble_eq_true rfl) dX2_enterSale_46 (fun H locs hP _ hS => ?_)
  refine wr_gen (va_cpy (mu 46) (mu ((77 + y3.toNatClampNeg) + 40)) (0 : Int32).toNatClampNeg (0 : Int32).toNatClampNeg (7 : Int32).toNatClampNeg) hP ((by rw [EX_spurses cs ad _ _ hk5.1 hk5.2])) (fun nu6 hn6 hP => ?_)
  have hF := mi_let hF hn6.symm
  have ok := okR_cp ok hn6 (cX_46_spurses  ((77 + y3.toNatClampNeg) + 40) hk5.1 hk5.2)
  have ez7 : y3 = nu6 6 1 := ey3.trans (congrFun (up_k hn6 (ne_lo (by decide) hk5.1)) 1).symm
  have kp8 : (∀ k f : Nat, Nat.testBit 486 (gpX k f) = true → nu6 k f = mu k f) := kp_c 4 hn6 (fun _ => gpX_spurses hk5.1 hk5.2) (by decide) (fun _ _ _ => rfl)
  refine lv_aload hx hb dX2_enterSale_49 (lv_at hl 0 rfl) ?_
  refine lv_iload_n hx hb dX2_enterSale_51 rfl (lv_at hl 5 rfl) ?_
  refine va_put (D := (dC, dI)) (ci := 7) (v := .int vk) (ty := .int) (C := RX7) (T := TX7) (N := 7) hx hb hts inG7 tyX7 tyX7_ok nmX7 hown hK hP (wR_D nu6 hD) hS (77 + y3.toNatClampNeg) (gX_sale cs ad nu6 (77 + y3.toNatClampNeg) hk4.1 hk4.2) rfl 1 (by decide) (hts _ (List.mem_cons_of_mem _ mw_1_225)) (fun _ h9 => h9) rfl (by decide +kernel) rfl rfl (Nat.le_of_ble_eq_true rfl) dX2_enterSale_52 (fun H locs hP _ hS => ?_)
  simp only [List.set_cons_succ, List.set_cons_zero] at hP
  refine wr_gen (upd (nu6 (77 + y3.toNatClampNeg)) 1 vk) hP ((hX_sale_1 cs ad _ _ (77 + y3.toNatClampNeg) hk4.1 hk4.2)) (fun nu9 hn9 hP => ?_)
  have hF := mi_let hF hn9.symm
  have ok := tX_sale_1 ok (77 + y3.toNatClampNeg) hk4.1 hk4.2 hn9 (by omega)
  have ez10 : y3 = nu9 6 1 := ez7.trans (congrFun (up_k hn9 (ne_lo (by decide) hk4.1)) 1).symm
  have kp11 : (∀ k f : Nat, Nat.testBit 486 (gpX k f) = true → nu9 k f = mu k f) := kp_c 4 hn9 (fun _ => gpX_sale hk4.1 hk4.2) (by decide) kp8
  have ez12 : vk = nu9 (77 + y3.toNatClampNeg) 1 := up_v hn9
  refine lv_aload hx hb dX2_enterSale_55 (lv_at hl 0 rfl) ?_
  refine lv_aload hx hb dX2_enterSale_57 (lv_at hl 2 rfl) ?_
  refine va_get (D := (dC, dI)) (ci := 3) (v := .int (nu9 (61 + vk.toNatClampNeg) 5)) (C := RX3) (T := TX3) (N := 10) hx hb hts inG3 hown hK hP (61 + vk.toNatClampNeg) (gX_letter cs ad nu9 (61 + vk.toNatClampNeg) hk1.1 hk1.2) rfl 5 (by decide) (hts _ (List.mem_cons_of_mem _ mw_1_63)) (fun _ h9 => h9) rfl dX2_enterSale_59 ?_
  refine lv_topi (fun y13 ey13 => ?_)
  have hF := mi_let hF ey13
  have by13 : y13.toInt = (nu9 (61 + vk.toNatClampNeg) 5).toInt := congrArg Int32.toInt ey13
  have gy13 : 0 ≤ y13.toInt ∧ y13.toInt ≤ 6 := by rw [ey13]; exact rX_letter_5 ok (61 + vk.toNatClampNeg) hk1.1 hk1.2
  refine va_put (D := (dC, dI)) (ci := 7) (v := .int y13) (ty := .int) (C := RX7) (T := TX7) (N := 7) hx hb hts inG7 tyX7 tyX7_ok nmX7 hown hK hP (wR_D nu9 hD) hS (77 + y3.toNatClampNeg) (gX_sale cs ad nu9 (77 + y3.toNatClampNeg) hk4.1 hk4.2) rfl 2 (by decide) (hts _ (List.mem_cons_of_mem _ mw_1_226)) (fun _ h9 => h9) rfl (by decide +kernel) rfl rfl (Nat.le_of_ble_eq_true rfl) dX2_enterSale_62 (fun H locs hP _ hS => ?_)
  simp only [List.set_cons_succ, List.set_cons_zero] at hP
  refine wr_gen (upd (nu9 (77 + y3.toNatClampNeg)) 2 y13) hP ((hX_sale_2 cs ad _ _ (77 + y3.toNatClampNeg) hk4.1 hk4.2)) (fun nu14 hn14 hP => ?_)
  have hF := mi_let hF hn14.symm
  have ok := tX_sale_2 ok (77 + y3.toNatClampNeg) hk4.1 hk4.2 hn14 (by omega)
  have ez15 : y3 = nu14 6 1 := ez10.trans (congrFun (up_k hn14 (ne_lo (by decide) hk4.1)) 1).symm
  have ez16 : vk = nu14 (77 + y3.toNatClampNeg) 1 := ez12.trans (up_f hn14 (by decide)).symm
  have ez17 : y13 = nu14 (61 + vk.toNatClampNeg) 5 := ey13.trans (congrFun (up_k hn14 (ne_ff hk1.2 (by decide) hk4.1)) 5).symm
  have kp18 : (∀ k f : Nat, Nat.testBit 486 (gpX k f) = true → nu14 k f = mu k f) := kp_c 4 hn14 (fun _ => gpX_sale hk4.1 hk4.2) (by decide) kp11
  have ez19 : y13 = nu14 (77 + y3.toNatClampNeg) 2 := up_v hn14
  refine lv_aload hx hb dX2_enterSale_65 (lv_at hl 0 rfl) ?_
  refine lv_iload_n hx hb dX2_enterSale_67 rfl (lv_at hl 6 rfl) ?_
  refine va_put (D := (dC, dI)) (ci := 7) (v := .int vx) (ty := .int) (C := RX7) (T := TX7) (N := 7) hx hb hts inG7 tyX7 tyX7_ok nmX7 hown hK hP (wR_D nu14 hD) hS (77 + y3.toNatClampNeg) (gX_sale cs ad nu14 (77 + y3.toNatClampNeg) hk4.1 hk4.2) rfl 3 (by decide) (hts _ (List.mem_cons_of_mem _ mw_1_227)) (fun _ h9 => h9) rfl (by decide +kernel) rfl rfl (Nat.le_of_ble_eq_true rfl) dX2_enterSale_68 (fun H locs hP _ hS => ?_)
  simp only [List.set_cons_succ, List.set_cons_zero] at hP
  refine wr_gen (upd (nu14 (77 + y3.toNatClampNeg)) 3 vx) hP ((hX_sale_3 cs ad _ _ (77 + y3.toNatClampNeg) hk4.1 hk4.2)) (fun nu20 hn20 hP => ?_)
  have hF := mi_let hF hn20.symm
  have ok := tX_sale_3 ok (77 + y3.toNatClampNeg) hk4.1 hk4.2 hn20
  have ez21 : y3 = nu20 6 1 := ez15.trans (congrFun (up_k hn20 (ne_lo (by decide) hk4.1)) 1).symm
  have ez22 : vk = nu20 (77 + y3.toNatClampNeg) 1 := ez16.trans (up_f hn20 (by decide)).symm
  have ez23 : y13 = nu20 (61 + vk.toNatClampNeg) 5 := ez17.trans (congrFun (up_k hn20 (ne_ff hk1.2 (by decide) hk4.1)) 5).symm
  have ez24 : y13 = nu20 (77 + y3.toNatClampNeg) 2 := ez19.trans (up_f hn20 (by decide)).symm
  have kp25 : (∀ k f : Nat, Nat.testBit 486 (gpX k f) = true → nu20 k f = mu k f) := kp_c 4 hn20 (fun _ => gpX_sale hk4.1 hk4.2) (by decide) kp18
  have ez26 : vx = nu20 (77 + y3.toNatClampNeg) 3 := up_v hn20
  refine lv_aload hx hb dX2_enterSale_71 (lv_at hl 0 rfl) ?_
  refine lv_iload hx hb dX2_enterSale_73 (lv_at hl 1 rfl) ?_
  refine va_put (D := (dC, dI)) (ci := 7) (v := .int r2) (ty := .int) (C := RX7) (T := TX7) (N := 7) hx hb hts inG7 tyX7 tyX7_ok nmX7 hown hK hP (wR_D nu20 hD) hS (77 + y3.toNatClampNeg) (gX_sale cs ad nu20 (77 + y3.toNatClampNeg) hk4.1 hk4.2) rfl 4 (by decide) (hts _ (List.mem_cons_of_mem _ mw_1_228)) (fun _ h9 => h9) rfl (by decide +kernel) rfl rfl (Nat.le_of_ble_eq_true rfl) dX2_enterSale_75 (fun H locs hP _ hS => ?_)
  simp only [List.set_cons_succ, List.set_cons_zero] at hP
  refine wr_gen (upd (nu20 (77 + y3.toNatClampNeg)) 4 r2) hP ((hX_sale_4 cs ad _ _ (77 + y3.toNatClampNeg) hk4.1 hk4.2)) (fun nu27 hn27 hP => ?_)
  have hF := mi_let hF hn27.symm
  have ok := tX_sale_4 ok (77 + y3.toNatClampNeg) hk4.1 hk4.2 hn27
  have ez28 : y3 = nu27 6 1 := ez21.trans (congrFun (up_k hn27 (ne_lo (by decide) hk4.1)) 1).symm
  have ez29 : vk = nu27 (77 + y3.toNatClampNeg) 1 := ez22.trans (up_f hn27 (by decide)).symm
  have ez30 : y13 = nu27 (61 + vk.toNatClampNeg) 5 := ez23.trans (congrFun (up_k hn27 (ne_ff hk1.2 (by decide) hk4.1)) 5).symm
  have ez31 : y13 = nu27 (77 + y3.toNatClampNeg) 2 := ez24.trans (up_f hn27 (by decide)).symm
  have ez32 : vx = nu27 (77 + y3.toNatClampNeg) 3 := ez26.trans (up_f hn27 (by decide)).symm
  have kp33 : (∀ k f : Nat, Nat.testBit 486 (gpX k f) = true → nu27 k f = mu k f) := kp_c 4 hn27 (fun _ => gpX_sale hk4.1 hk4.2) (by decide) kp25
  have ez34 : r2 = nu27 (77 + y3.toNatClampNeg) 4 := up_v hn27
  refine lv_aload hx hb dX2_enterSale_78 (lv_at hl 0 rfl) ?_
  refine lv_aload hx hb dX2_enterSale_80 (lv_at hl 2 rfl) ?_
  refine va_get (D := (dC, dI)) (ci := 3) (v := .int (nu27 (61 + vk.toNatClampNeg) 6)) (C := RX3) (T := TX3) (N := 10) hx hb hts inG3 hown hK hP (61 + vk.toNatClampNeg) (gX_letter cs ad nu27 (61 + vk.toNatClampNeg) hk1.1 hk1.2) rfl 6 (by decide) (hts _ (List.mem_cons_of_mem _ mw_1_68)) (fun _ h9 => h9) rfl dX2_enterSale_82 ?_
  refine lv_topi (fun y35 ey35 => ?_)
  have hF := mi_let hF ey35
  have by35 : y35.toInt = (nu27 (61 + vk.toNatClampNeg) 6).toInt := congrArg Int32.toInt ey35
  refine va_put (D := (dC, dI)) (ci := 7) (v := .int y35) (ty := .int) (C := RX7) (T := TX7) (N := 7) hx hb hts inG7 tyX7 tyX7_ok nmX7 hown hK hP (wR_D nu27 hD) hS (77 + y3.toNatClampNeg) (gX_sale cs ad nu27 (77 + y3.toNatClampNeg) hk4.1 hk4.2) rfl 5 (by decide) (hts _ (List.mem_cons_of_mem _ mw_1_229)) (fun _ h9 => h9) rfl (by decide +kernel) rfl rfl (Nat.le_of_ble_eq_true rfl) dX2_enterSale_85 (fun H locs hP _ hS => ?_)
  simp only [List.set_cons_succ, List.set_cons_zero] at hP
  refine wr_gen (upd (nu27 (77 + y3.toNatClampNeg)) 5 y35) hP ((hX_sale_5 cs ad _ _ (77 + y3.toNatClampNeg) hk4.1 hk4.2)) (fun nu36 hn36 hP => ?_)
  have hF := mi_let hF hn36.symm
  have ok := tX_sale_5 ok (77 + y3.toNatClampNeg) hk4.1 hk4.2 hn36
  have ez37 : y3 = nu36 6 1 := ez28.trans (congrFun (up_k hn36 (ne_lo (by decide) hk4.1)) 1).symm
  have ez38 : vk = nu36 (77 + y3.toNatClampNeg) 1 := ez29.trans (up_f hn36 (by decide)).symm
  have ez39 : y13 = nu36 (61 + vk.toNatClampNeg) 5 := ez30.trans (congrFun (up_k hn36 (ne_ff hk1.2 (by decide) hk4.1)) 5).symm
  have ez40 : y13 = nu36 (77 + y3.toNatClampNeg) 2 := ez31.trans (up_f hn36 (by decide)).symm
  have ez41 : vx = nu36 (77 + y3.toNatClampNeg) 3 := ez32.trans (up_f hn36 (by decide)).symm
  have ez42 : r2 = nu36 (77 + y3.toNatClampNeg) 4 := ez34.trans (up_f hn36 (by decide)).symm
  have ez43 : y35 = nu36 (61 + vk.toNatClampNeg) 6 := ey35.trans (congrFun (up_k hn36 (ne_ff hk1.2 (by decide) hk4.1)) 6).symm
  have kp44 : (∀ k f : Nat, Nat.testBit 486 (gpX k f) = true → nu36 k f = mu k f) := kp_c 4 hn36 (fun _ => gpX_sale hk4.1 hk4.2) (by decide) kp33
  have ez45 : y35 = nu36 (77 + y3.toNatClampNeg) 5 := up_v hn36
  refine lv_aload hx hb dX2_enterSale_88 (lv_at hl 0 rfl) ?_
  refine lv_aload hx hb dX2_enterSale_90 (lv_at hl 2 rfl) ?_
  refine va_get (D := (dC, dI)) (ci := 3) (v := .int (nu36 (61 + vk.toNatClampNeg) 7)) (C := RX3) (T := TX3) (N := 10) hx hb hts inG3 hown hK hP (61 + vk.toNatClampNeg) (gX_letter cs ad nu36 (61 + vk.toNatClampNeg) hk1.1 hk1.2) rfl 7 (by decide) (hts _ (List.mem_cons_of_mem _ mw_1_73)) (fun _ h9 => h9) rfl dX2_enterSale_92 ?_
  refine lv_topi (fun y46 ey46 => ?_)
  have hF := mi_let hF ey46
  have by46 : y46.toInt = (nu36 (61 + vk.toNatClampNeg) 7).toInt := congrArg Int32.toInt ey46
  refine va_put (D := (dC, dI)) (ci := 7) (v := .int y46) (ty := .int) (C := RX7) (T := TX7) (N := 7) hx hb hts inG7 tyX7 tyX7_ok nmX7 hown hK hP (wR_D nu36 hD) hS (77 + y3.toNatClampNeg) (gX_sale cs ad nu36 (77 + y3.toNatClampNeg) hk4.1 hk4.2) rfl 6 (by decide) (hts _ (List.mem_cons_of_mem _ mw_1_230)) (fun _ h9 => h9) rfl (by decide +kernel) rfl rfl (Nat.le_of_ble_eq_true rfl) dX2_enterSale_95 (fun H locs hP _ hS => ?_)
  simp only [List.set_cons_succ, List.set_cons_zero] at hP
  refine wr_gen (upd (nu36 (77 + y3.toNatClampNeg)) 6 y46) hP ((hX_sale_6 cs ad _ _ (77 + y3.toNatClampNeg) hk4.1 hk4.2)) (fun nu47 hn47 hP => ?_)
  have hF := mi_let hF hn47.symm
  have ok := tX_sale_6 ok (77 + y3.toNatClampNeg) hk4.1 hk4.2 hn47
  have ez48 : y3 = nu47 6 1 := ez37.trans (congrFun (up_k hn47 (ne_lo (by decide) hk4.1)) 1).symm
  have ez49 : vk = nu47 (77 + y3.toNatClampNeg) 1 := ez38.trans (up_f hn47 (by decide)).symm
  have ez50 : y13 = nu47 (61 + vk.toNatClampNeg) 5 := ez39.trans (congrFun (up_k hn47 (ne_ff hk1.2 (by decide) hk4.1)) 5).symm
  have ez51 : y13 = nu47 (77 + y3.toNatClampNeg) 2 := ez40.trans (up_f hn47 (by decide)).symm
  have ez52 : vx = nu47 (77 + y3.toNatClampNeg) 3 := ez41.trans (up_f hn47 (by decide)).symm
  have ez53 : r2 = nu47 (77 + y3.toNatClampNeg) 4 := ez42.trans (up_f hn47 (by decide)).symm
  have ez54 : y35 = nu47 (61 + vk.toNatClampNeg) 6 := ez43.trans (congrFun (up_k hn47 (ne_ff hk1.2 (by decide) hk4.1)) 6).symm
  have ez55 : y35 = nu47 (77 + y3.toNatClampNeg) 5 := ez45.trans (up_f hn47 (by decide)).symm
  have ez56 : y46 = nu47 (61 + vk.toNatClampNeg) 7 := ey46.trans (congrFun (up_k hn47 (ne_ff hk1.2 (by decide) hk4.1)) 7).symm
  have kp57 : (∀ k f : Nat, Nat.testBit 486 (gpX k f) = true → nu47 k f = mu k f) := kp_c 4 hn47 (fun _ => gpX_sale hk4.1 hk4.2) (by decide) kp44
  have ez58 : y46 = nu47 (77 + y3.toNatClampNeg) 6 := up_v hn47
  refine lv_aload_n hx hb dX2_enterSale_98 rfl (lv_at hl 3 rfl) ?_
  refine lv_dup hx hb dX2_enterSale_99 rfl ?_
  refine va_get (D := (dC, dI)) (ci := 2) (v := .int (nu47 6 1)) (C := RX2) (T := TX2) (N := 2) hx hb hts inG2 hown hK hP 6 (gX_6 cs ad nu47) rfl 1 (by decide) (hts _ (List.mem_cons_of_mem _ mw_2_7)) (fun _ h9 => h9) rfl dX2_enterSale_100 ?_
  refine lq_i y3 ez48.symm ?_
  refine lv_iconst (v := 1) hx hb dX2_enterSale_103 (by decide) ?_
  refine lv_iadd hx hb dX2_enterSale_104 ?_
  refine lv_topi (fun t59 et59 => ?_)
  have hF := mi_let hF et59
  have at59 : t59.toInt = y3.toInt + 1 := by rw [et59]; exact va1 (by omega)
  refine va_put (D := (dC, dI)) (ci := 2) (v := .int t59) (ty := .int) (C := RX2) (T := TX2) (N := 2) hx hb hts inG2 tyX2 tyX2_ok nmX2 hown hK hP (wR_D nu47 hD) hS 6 (gX_6 cs ad nu47) rfl 1 (by decide) (hts _ (List.mem_cons_of_mem _ mw_2_7)) (fun _ h9 => h9) rfl (by decide +kernel) rfl rfl (Nat.le_of_ble_eq_true rfl) dX2_enterSale_105 (fun H locs hP _ hS => ?_)
  simp only [List.set_cons_succ, List.set_cons_zero] at hP
  refine wr_gen (upd (nu47 6) 1 t59) hP ((hX_6_1 cs ad _ _)) (fun nu60 hn60 hP => ?_)
  have hF := mi_let hF hn60.symm
  have ok := tX_6_1 ok hn60 (by omega)
  have ez61 : vk = nu60 (77 + y3.toNatClampNeg) 1 := ez49.trans (congrFun (up_k hn60 (ne_lo (by decide) hk4.1).symm) 1).symm
  have ez62 : y13 = nu60 (61 + vk.toNatClampNeg) 5 := ez50.trans (congrFun (up_k hn60 (ne_lo (by decide) hk1.1).symm) 5).symm
  have ez63 : y13 = nu60 (77 + y3.toNatClampNeg) 2 := ez51.trans (congrFun (up_k hn60 (ne_lo (by decide) hk4.1).symm) 2).symm
  have ez64 : vx = nu60 (77 + y3.toNatClampNeg) 3 := ez52.trans (congrFun (up_k hn60 (ne_lo (by decide) hk4.1).symm) 3).symm
  have ez65 : r2 = nu60 (77 + y3.toNatClampNeg) 4 := ez53.trans (congrFun (up_k hn60 (ne_lo (by decide) hk4.1).symm) 4).symm
  have ez66 : y35 = nu60 (61 + vk.toNatClampNeg) 6 := ez54.trans (congrFun (up_k hn60 (ne_lo (by decide) hk1.1).symm) 6).symm
  have ez67 : y35 = nu60 (77 + y3.toNatClampNeg) 5 := ez55.trans (congrFun (up_k hn60 (ne_lo (by decide) hk4.1).symm) 5).symm
  have ez68 : y46 = nu60 (61 + vk.toNatClampNeg) 7 := ez56.trans (congrFun (up_k hn60 (ne_lo (by decide) hk1.1).symm) 7).symm
  have ez69 : y46 = nu60 (77 + y3.toNatClampNeg) 6 := ez58.trans (congrFun (up_k hn60 (ne_lo (by decide) hk4.1).symm) 6).symm
  have kp70 : (∀ k f : Nat, Nat.testBit 486 (gpX k f) = true → nu60 k f = mu k f) := kp_c 4 hn60 (fun _ => rfl) (by decide) kp57
  have ez71 : t59 = nu60 6 1 := up_v hn60
  refine lv_aload_n hx hb dX2_enterSale_108 rfl (lv_at hl 4 rfl) ?_
  refine va_get (D := (dC, dI)) (ci := 10) (v := .ref (ad 5)) (C := RX10) (T := TX10) (N := 8) hx hb hts inG10 hown hK hP 4 (gX_4 cs ad nu60) rfl 3 (by decide) (hts _ (List.mem_cons_of_mem _ mw_1_154)) (fun _ h9 => h9) rfl dX2_enterSale_109 ?_
  refine va_get (D := (dC, dI)) (ci := 8) (v := .ref (ad 46)) (C := RX8) (T := TX8) (N := 6) hx hb hts inG8 hown hK hP 5 (gX_5 cs ad nu60) rfl 0 (by decide) (hts _ (List.mem_cons_of_mem _ mw_1_105)) (fun _ h9 => h9) rfl dX2_enterSale_112 ?_
  refine lv_iload_n hx hb dX2_enterSale_115 rfl (lv_at hl 6 rfl) ?_
  refine lv_dup2_11 hx hb dX2_enterSale_116 rfl rfl ?_
  refine va_iald hx hb hK hP 46 0 (gX_46 cs ad nu60) rfl (show vp_in vx 7 from vi_of (by omega) (by omega)) dX2_enterSale_117 ?_
  refine lv_topi (fun y72 ey72 => ?_)
  have hF := mi_let hF ey72
  have by72 : y72.toInt = (nu60 46 vx.toNatClampNeg).toInt := congrArg Int32.toInt ey72
  refine lv_iload hx hb dX2_enterSale_118 (lv_at hl 1 rfl) ?_
  refine lv_isub hx hb dX2_enterSale_120 ?_
  refine lv_topi (fun t73 et73 => ?_)
  have hF := mi_let hF et73
  refine va_iast hx hb hK hP (wR_D nu60 hD) hS 46 0 (gX_46 cs ad nu60) rfl (show vp_in vx 7 from vi_of (by omega) (by omega)) dX2_enterSale_121 (fun H locs hP _ hS => ?_)
  refine wr_gen (upd (nu60 46) vx.toNatClampNeg t73) hP (rfl) (fun nu74 hn74 hP => ?_)
  have hF := mi_let hF hn74.symm
  have ok := tX_46_s ok vx.toNatClampNeg hn74
  have ez75 : vk = nu74 (77 + y3.toNatClampNeg) 1 := ez61.trans (congrFun (up_k hn74 (ne_lo (by decide) hk4.1).symm) 1).symm
  have ez76 : y13 = nu74 (61 + vk.toNatClampNeg) 5 := ez62.trans (congrFun (up_k hn74 (ne_lo (by decide) hk1.1).symm) 5).symm
  have ez77 : y13 = nu74 (77 + y3.toNatClampNeg) 2 := ez63.trans (congrFun (up_k hn74 (ne_lo (by decide) hk4.1).symm) 2).symm
  have ez78 : vx = nu74 (77 + y3.toNatClampNeg) 3 := ez64.trans (congrFun (up_k hn74 (ne_lo (by decide) hk4.1).symm) 3).symm
  have ez79 : r2 = nu74 (77 + y3.toNatClampNeg) 4 := ez65.trans (congrFun (up_k hn74 (ne_lo (by decide) hk4.1).symm) 4).symm
  have ez80 : y35 = nu74 (61 + vk.toNatClampNeg) 6 := ez66.trans (congrFun (up_k hn74 (ne_lo (by decide) hk1.1).symm) 6).symm
  have ez81 : y35 = nu74 (77 + y3.toNatClampNeg) 5 := ez67.trans (congrFun (up_k hn74 (ne_lo (by decide) hk4.1).symm) 5).symm
  have ez82 : y46 = nu74 (61 + vk.toNatClampNeg) 7 := ez68.trans (congrFun (up_k hn74 (ne_lo (by decide) hk1.1).symm) 7).symm
  have ez83 : y46 = nu74 (77 + y3.toNatClampNeg) 6 := ez69.trans (congrFun (up_k hn74 (ne_lo (by decide) hk4.1).symm) 6).symm
  have ez84 : t59 = nu74 6 1 := ez71.trans (congrFun (up_k hn74 (by decide)) 1).symm
  have kp85 : (∀ k f : Nat, Nat.testBit 486 (gpX k f) = true → nu74 k f = mu k f) := kp_c 3 hn74 (fun _ => rfl) (by decide) kp70
  refine lv_aload_n hx hb dX2_enterSale_122 rfl (lv_at hl 4 rfl) ?_
  refine va_get (D := (dC, dI)) (ci := 10) (v := .ref (ad 5)) (C := RX10) (T := TX10) (N := 8) hx hb hts inG10 hown hK hP 4 (gX_4 cs ad nu74) rfl 3 (by decide) (hts _ (List.mem_cons_of_mem _ mw_1_154)) (fun _ h9 => h9) rfl dX2_enterSale_123 ?_
  refine va_get (D := (dC, dI)) (ci := 8) (v := .ref (ad 46)) (C := RX8) (T := TX8) (N := 6) hx hb hts inG8 hown hK hP 5 (gX_5 cs ad nu74) rfl 0 (by decide) (hts _ (List.mem_cons_of_mem _ mw_1_105)) (fun _ h9 => h9) rfl dX2_enterSale_126 ?_
  refine lv_aload hx hb dX2_enterSale_129 (lv_at hl 2 rfl) ?_
  refine va_get (D := (dC, dI)) (ci := 3) (v := .int (nu74 (61 + vk.toNatClampNeg) 5)) (C := RX3) (T := TX3) (N := 10) hx hb hts inG3 hown hK hP (61 + vk.toNatClampNeg) (gX_letter cs ad nu74 (61 + vk.toNatClampNeg) hk1.1 hk1.2) rfl 5 (by decide) (hts _ (List.mem_cons_of_mem _ mw_1_63)) (fun _ h9 => h9) rfl dX2_enterSale_131 ?_
  refine lq_i y13 ez76.symm ?_
  refine lv_dup2_11 hx hb dX2_enterSale_134 rfl rfl ?_
  refine va_iald hx hb hK hP 46 0 (gX_46 cs ad nu74) rfl (show vp_in y13 7 from vi_of (by omega) (by omega)) dX2_enterSale_135 ?_
  refine lv_topi (fun y86 ey86 => ?_)
  have hF := mi_let hF ey86
  have by86 : y86.toInt = (nu74 46 y13.toNatClampNeg).toInt := congrArg Int32.toInt ey86
  refine lv_iload hx hb dX2_enterSale_136 (lv_at hl 1 rfl) ?_
  refine lv_iadd hx hb dX2_enterSale_138 ?_
  refine lv_topi (fun t87 et87 => ?_)
  have hF := mi_let hF et87
  refine va_iast hx hb hK hP (wR_D nu74 hD) hS 46 0 (gX_46 cs ad nu74) rfl (show vp_in y13 7 from vi_of (by omega) (by omega)) dX2_enterSale_139 (fun H locs hP _ hS => ?_)
  refine wr_gen (upd (nu74 46) y13.toNatClampNeg t87) hP (rfl) (fun nu88 hn88 hP => ?_)
  have hF := mi_let hF hn88.symm
  have ok := tX_46_s ok y13.toNatClampNeg hn88
  have ez89 : vk = nu88 (77 + y3.toNatClampNeg) 1 := ez75.trans (congrFun (up_k hn88 (ne_lo (by decide) hk4.1).symm) 1).symm
  have ez90 : y13 = nu88 (61 + vk.toNatClampNeg) 5 := ez76.trans (congrFun (up_k hn88 (ne_lo (by decide) hk1.1).symm) 5).symm
  have ez91 : y13 = nu88 (77 + y3.toNatClampNeg) 2 := ez77.trans (congrFun (up_k hn88 (ne_lo (by decide) hk4.1).symm) 2).symm
  have ez92 : vx = nu88 (77 + y3.toNatClampNeg) 3 := ez78.trans (congrFun (up_k hn88 (ne_lo (by decide) hk4.1).symm) 3).symm
  have ez93 : r2 = nu88 (77 + y3.toNatClampNeg) 4 := ez79.trans (congrFun (up_k hn88 (ne_lo (by decide) hk4.1).symm) 4).symm
  have ez94 : y35 = nu88 (61 + vk.toNatClampNeg) 6 := ez80.trans (congrFun (up_k hn88 (ne_lo (by decide) hk1.1).symm) 6).symm
  have ez95 : y35 = nu88 (77 + y3.toNatClampNeg) 5 := ez81.trans (congrFun (up_k hn88 (ne_lo (by decide) hk4.1).symm) 5).symm
  have ez96 : y46 = nu88 (61 + vk.toNatClampNeg) 7 := ez82.trans (congrFun (up_k hn88 (ne_lo (by decide) hk1.1).symm) 7).symm
  have ez97 : y46 = nu88 (77 + y3.toNatClampNeg) 6 := ez83.trans (congrFun (up_k hn88 (ne_lo (by decide) hk4.1).symm) 6).symm
  have ez98 : t59 = nu88 6 1 := ez84.trans (congrFun (up_k hn88 (by decide)) 1).symm
  have kp99 : (∀ k f : Nat, Nat.testBit 486 (gpX k f) = true → nu88 k f = mu k f) := kp_c 3 hn88 (fun _ => rfl) (by decide) kp85
  refine lv_aload hx hb dX2_enterSale_140 (lv_at hl 2 rfl) ?_
  refine lv_iload_n hx hb dX2_enterSale_142 rfl (lv_at hl 6 rfl) ?_
  refine va_put (D := (dC, dI)) (ci := 3) (v := .int vx) (ty := .int) (C := RX3) (T := TX3) (N := 10) hx hb hts inG3 tyX3 tyX3_ok nmX3 hown hK hP (wR_D nu88 hD) hS (61 + vk.toNatClampNeg) (gX_letter cs ad nu88 (61 + vk.toNatClampNeg) hk1.1 hk1.2) rfl 5 (by decide) (hts _ (List.mem_cons_of_mem _ mw_1_63)) (fun _ h9 => h9) rfl (by decide +kernel) rfl rfl (Nat.le_of_ble_eq_true rfl) dX2_enterSale_143 (fun H locs hP _ hS => ?_)
  simp only [List.set_cons_succ, List.set_cons_zero] at hP
  refine wr_gen (upd (nu88 (61 + vk.toNatClampNeg)) 5 vx) hP ((hX_letter_5 cs ad _ _ (61 + vk.toNatClampNeg) hk1.1 hk1.2)) (fun nu100 hn100 hP => ?_)
  have hF := mi_let hF hn100.symm
  have ok := tX_letter_5 ok (61 + vk.toNatClampNeg) hk1.1 hk1.2 hn100 (by omega)
  have ez101 : vk = nu100 (77 + y3.toNatClampNeg) 1 := ez89.trans (congrFun (up_k hn100 (ne_gg hk4.1 (by decide) hk1.2)) 1).symm
  have ez102 : y13 = nu100 (77 + y3.toNatClampNeg) 2 := ez91.trans (congrFun (up_k hn100 (ne_gg hk4.1 (by decide) hk1.2)) 2).symm
  have ez103 : vx = nu100 (77 + y3.toNatClampNeg) 3 := ez92.trans (congrFun (up_k hn100 (ne_gg hk4.1 (by decide) hk1.2)) 3).symm
  have ez104 : r2 = nu100 (77 + y3.toNatClampNeg) 4 := ez93.trans (congrFun (up_k hn100 (ne_gg hk4.1 (by decide) hk1.2)) 4).symm
  have ez105 : y35 = nu100 (61 + vk.toNatClampNeg) 6 := ez94.trans (up_f hn100 (by decide)).symm
  have ez106 : y35 = nu100 (77 + y3.toNatClampNeg) 5 := ez95.trans (congrFun (up_k hn100 (ne_gg hk4.1 (by decide) hk1.2)) 5).symm
  have ez107 : y46 = nu100 (61 + vk.toNatClampNeg) 7 := ez96.trans (up_f hn100 (by decide)).symm
  have ez108 : y46 = nu100 (77 + y3.toNatClampNeg) 6 := ez97.trans (congrFun (up_k hn100 (ne_gg hk4.1 (by decide) hk1.2)) 6).symm
  have ez109 : t59 = nu100 6 1 := ez98.trans (congrFun (up_k hn100 (ne_lo (by decide) hk1.1)) 1).symm
  have kp110 : (∀ k f : Nat, Nat.testBit 486 (gpX k f) = true → nu100 k f = mu k f) := kp_c 3 hn100 (fun _ => gpX_letter hk1.1 hk1.2) (by decide) kp99
  have ez111 : vx = nu100 (61 + vk.toNatClampNeg) 5 := up_v hn100
  refine lv_aload hx hb dX2_enterSale_146 (lv_at hl 2 rfl) ?_
  refine lv_iload hx hb dX2_enterSale_148 (lv_at hl 1 rfl) ?_
  refine va_put (D := (dC, dI)) (ci := 3) (v := .int r2) (ty := .int) (C := RX3) (T := TX3) (N := 10) hx hb hts inG3 tyX3 tyX3_ok nmX3 hown hK hP (wR_D nu100 hD) hS (61 + vk.toNatClampNeg) (gX_letter cs ad nu100 (61 + vk.toNatClampNeg) hk1.1 hk1.2) rfl 6 (by decide) (hts _ (List.mem_cons_of_mem _ mw_1_68)) (fun _ h9 => h9) rfl (by decide +kernel) rfl rfl (Nat.le_of_ble_eq_true rfl) dX2_enterSale_150 (fun H locs hP _ hS => ?_)
  simp only [List.set_cons_succ, List.set_cons_zero] at hP
  refine wr_gen (upd (nu100 (61 + vk.toNatClampNeg)) 6 r2) hP ((hX_letter_6 cs ad _ _ (61 + vk.toNatClampNeg) hk1.1 hk1.2)) (fun nu112 hn112 hP => ?_)
  have hF := mi_let hF hn112.symm
  have ok := tX_letter_6 ok (61 + vk.toNatClampNeg) hk1.1 hk1.2 hn112
  have ez113 : vk = nu112 (77 + y3.toNatClampNeg) 1 := ez101.trans (congrFun (up_k hn112 (ne_gg hk4.1 (by decide) hk1.2)) 1).symm
  have ez114 : y13 = nu112 (77 + y3.toNatClampNeg) 2 := ez102.trans (congrFun (up_k hn112 (ne_gg hk4.1 (by decide) hk1.2)) 2).symm
  have ez115 : vx = nu112 (77 + y3.toNatClampNeg) 3 := ez103.trans (congrFun (up_k hn112 (ne_gg hk4.1 (by decide) hk1.2)) 3).symm
  have ez116 : r2 = nu112 (77 + y3.toNatClampNeg) 4 := ez104.trans (congrFun (up_k hn112 (ne_gg hk4.1 (by decide) hk1.2)) 4).symm
  have ez117 : y35 = nu112 (77 + y3.toNatClampNeg) 5 := ez106.trans (congrFun (up_k hn112 (ne_gg hk4.1 (by decide) hk1.2)) 5).symm
  have ez118 : y46 = nu112 (61 + vk.toNatClampNeg) 7 := ez107.trans (up_f hn112 (by decide)).symm
  have ez119 : y46 = nu112 (77 + y3.toNatClampNeg) 6 := ez108.trans (congrFun (up_k hn112 (ne_gg hk4.1 (by decide) hk1.2)) 6).symm
  have ez120 : t59 = nu112 6 1 := ez109.trans (congrFun (up_k hn112 (ne_lo (by decide) hk1.1)) 1).symm
  have ez121 : vx = nu112 (61 + vk.toNatClampNeg) 5 := ez111.trans (up_f hn112 (by decide)).symm
  have kp122 : (∀ k f : Nat, Nat.testBit 486 (gpX k f) = true → nu112 k f = mu k f) := kp_c 3 hn112 (fun _ => gpX_letter hk1.1 hk1.2) (by decide) kp110
  have ez123 : r2 = nu112 (61 + vk.toNatClampNeg) 6 := up_v hn112
  refine lv_aload hx hb dX2_enterSale_153 (lv_at hl 2 rfl) ?_
  refine lv_aload_n hx hb dX2_enterSale_155 rfl (lv_at hl 4 rfl) ?_
  refine va_get (D := (dC, dI)) (ci := 10) (v := .ref (ad 5)) (C := RX10) (T := TX10) (N := 8) hx hb hts inG10 hown hK hP 4 (gX_4 cs ad nu112) rfl 3 (by decide) (hts _ (List.mem_cons_of_mem _ mw_1_154)) (fun _ h9 => h9) rfl dX2_enterSale_156 ?_
  refine va_get (D := (dC, dI)) (ci := 8) (v := .int (nu112 5 3)) (C := RX8) (T := TX8) (N := 6) hx hb hts inG8 hown hK hP 5 (gX_5 cs ad nu112) rfl 3 (by decide) (hts _ (List.mem_cons_of_mem _ mw_1_121)) (fun _ h9 => h9) rfl dX2_enterSale_159 ?_
  refine lv_topi (fun y124 ey124 => ?_)
  have hF := mi_let hF ey124
  have by124 : y124.toInt = (nu112 5 3).toInt := congrArg Int32.toInt ey124
  refine va_put (D := (dC, dI)) (ci := 3) (v := .int y124) (ty := .int) (C := RX3) (T := TX3) (N := 10) hx hb hts inG3 tyX3 tyX3_ok nmX3 hown hK hP (wR_D nu112 hD) hS (61 + vk.toNatClampNeg) (gX_letter cs ad nu112 (61 + vk.toNatClampNeg) hk1.1 hk1.2) rfl 7 (by decide) (hts _ (List.mem_cons_of_mem _ mw_1_73)) (fun _ h9 => h9) rfl (by decide +kernel) rfl rfl (Nat.le_of_ble_eq_true rfl) dX2_enterSale_162 (fun H locs hP _ hS => ?_)
  simp only [List.set_cons_succ, List.set_cons_zero] at hP
  refine wr_gen (upd (nu112 (61 + vk.toNatClampNeg)) 7 y124) hP ((hX_letter_7 cs ad _ _ (61 + vk.toNatClampNeg) hk1.1 hk1.2)) (fun nu125 hn125 hP => ?_)
  have hF := mi_let hF hn125.symm
  have ok := tX_letter_7 ok (61 + vk.toNatClampNeg) hk1.1 hk1.2 hn125
  have ez126 : vk = nu125 (77 + y3.toNatClampNeg) 1 := ez113.trans (congrFun (up_k hn125 (ne_gg hk4.1 (by decide) hk1.2)) 1).symm
  have ez127 : y13 = nu125 (77 + y3.toNatClampNeg) 2 := ez114.trans (congrFun (up_k hn125 (ne_gg hk4.1 (by decide) hk1.2)) 2).symm
  have ez128 : vx = nu125 (77 + y3.toNatClampNeg) 3 := ez115.trans (congrFun (up_k hn125 (ne_gg hk4.1 (by decide) hk1.2)) 3).symm
  have ez129 : r2 = nu125 (77 + y3.toNatClampNeg) 4 := ez116.trans (congrFun (up_k hn125 (ne_gg hk4.1 (by decide) hk1.2)) 4).symm
  have ez130 : y35 = nu125 (77 + y3.toNatClampNeg) 5 := ez117.trans (congrFun (up_k hn125 (ne_gg hk4.1 (by decide) hk1.2)) 5).symm
  have ez131 : y46 = nu125 (77 + y3.toNatClampNeg) 6 := ez119.trans (congrFun (up_k hn125 (ne_gg hk4.1 (by decide) hk1.2)) 6).symm
  have ez132 : t59 = nu125 6 1 := ez120.trans (congrFun (up_k hn125 (ne_lo (by decide) hk1.1)) 1).symm
  have ez133 : vx = nu125 (61 + vk.toNatClampNeg) 5 := ez121.trans (up_f hn125 (by decide)).symm
  have ez134 : r2 = nu125 (61 + vk.toNatClampNeg) 6 := ez123.trans (up_f hn125 (by decide)).symm
  have ez135 : y124 = nu125 5 3 := ey124.trans (congrFun (up_k hn125 (ne_lo (by decide) hk1.1)) 3).symm
  have kp136 : (∀ k f : Nat, Nat.testBit 486 (gpX k f) = true → nu125 k f = mu k f) := kp_c 3 hn125 (fun _ => gpX_letter hk1.1 hk1.2) (by decide) kp122
  have ez137 : y124 = nu125 (61 + vk.toNatClampNeg) 7 := up_v hn125
  refine lv_aload hx hb dX2_enterSale_165 (lv_at hl 2 rfl) ?_
  refine lv_dup hx hb dX2_enterSale_167 rfl ?_
  refine va_get (D := (dC, dI)) (ci := 3) (v := .int (nu125 (61 + vk.toNatClampNeg) 8)) (C := RX3) (T := TX3) (N := 10) hx hb hts inG3 hown hK hP (61 + vk.toNatClampNeg) (gX_letter cs ad nu125 (61 + vk.toNatClampNeg) hk1.1 hk1.2) rfl 8 (by decide) (hts _ (List.mem_cons_of_mem _ mw_1_76)) (fun _ h9 => h9) rfl dX2_enterSale_168 ?_
  refine lv_topi (fun y138 ey138 => ?_)
  have hF := mi_let hF ey138
  have by138 : y138.toInt = (nu125 (61 + vk.toNatClampNeg) 8).toInt := congrArg Int32.toInt ey138
  refine lv_iconst (v := 1) hx hb dX2_enterSale_171 (by decide) ?_
  refine lv_iadd hx hb dX2_enterSale_172 ?_
  refine lv_topi (fun t139 et139 => ?_)
  have hF := mi_let hF et139
  refine va_put (D := (dC, dI)) (ci := 3) (v := .int t139) (ty := .int) (C := RX3) (T := TX3) (N := 10) hx hb hts inG3 tyX3 tyX3_ok nmX3 hown hK hP (wR_D nu125 hD) hS (61 + vk.toNatClampNeg) (gX_letter cs ad nu125 (61 + vk.toNatClampNeg) hk1.1 hk1.2) rfl 8 (by decide) (hts _ (List.mem_cons_of_mem _ mw_1_76)) (fun _ h9 => h9) rfl (by decide +kernel) rfl rfl (Nat.le_of_ble_eq_true rfl) dX2_enterSale_173 (fun H locs hP _ hS => ?_)
  simp only [List.set_cons_succ, List.set_cons_zero] at hP
  refine wr_gen (upd (nu125 (61 + vk.toNatClampNeg)) 8 t139) hP ((hX_letter_8 cs ad _ _ (61 + vk.toNatClampNeg) hk1.1 hk1.2)) (fun nu140 hn140 hP => ?_)
  have hF := mi_let hF hn140.symm
  have ok := tX_letter_8 ok (61 + vk.toNatClampNeg) hk1.1 hk1.2 hn140
  have ez141 : vk = nu140 (77 + y3.toNatClampNeg) 1 := ez126.trans (congrFun (up_k hn140 (ne_gg hk4.1 (by decide) hk1.2)) 1).symm
  have ez142 : y13 = nu140 (77 + y3.toNatClampNeg) 2 := ez127.trans (congrFun (up_k hn140 (ne_gg hk4.1 (by decide) hk1.2)) 2).symm
  have ez143 : vx = nu140 (77 + y3.toNatClampNeg) 3 := ez128.trans (congrFun (up_k hn140 (ne_gg hk4.1 (by decide) hk1.2)) 3).symm
  have ez144 : r2 = nu140 (77 + y3.toNatClampNeg) 4 := ez129.trans (congrFun (up_k hn140 (ne_gg hk4.1 (by decide) hk1.2)) 4).symm
  have ez145 : y35 = nu140 (77 + y3.toNatClampNeg) 5 := ez130.trans (congrFun (up_k hn140 (ne_gg hk4.1 (by decide) hk1.2)) 5).symm
  have ez146 : y46 = nu140 (77 + y3.toNatClampNeg) 6 := ez131.trans (congrFun (up_k hn140 (ne_gg hk4.1 (by decide) hk1.2)) 6).symm
  have ez147 : t59 = nu140 6 1 := ez132.trans (congrFun (up_k hn140 (ne_lo (by decide) hk1.1)) 1).symm
  have ez148 : vx = nu140 (61 + vk.toNatClampNeg) 5 := ez133.trans (up_f hn140 (by decide)).symm
  have ez149 : r2 = nu140 (61 + vk.toNatClampNeg) 6 := ez134.trans (up_f hn140 (by decide)).symm
  have ez150 : y124 = nu140 5 3 := ez135.trans (congrFun (up_k hn140 (ne_lo (by decide) hk1.1)) 3).symm
  have ez151 : y124 = nu140 (61 + vk.toNatClampNeg) 7 := ez137.trans (up_f hn140 (by decide)).symm
  have kp152 : (∀ k f : Nat, Nat.testBit 486 (gpX k f) = true → nu140 k f = mu k f) := kp_c 3 hn140 (fun _ => gpX_letter hk1.1 hk1.2) (by decide) kp136
  have ez153 : t139 = nu140 (61 + vk.toNatClampNeg) 8 := up_v hn140
  refine lv_aload hx hb dX2_enterSale_176 (lv_at hl 2 rfl) ?_
  refine lv_iload_n hx hb dX2_enterSale_178 rfl (lv_at hl 6 rfl) ?_
  refine lv_aload hx hb dX2_enterSale_179 (lv_at hl 2 rfl) ?_
  refine va_get (D := (dC, dI)) (ci := 3) (v := .int (nu140 (61 + vk.toNatClampNeg) 1)) (C := RX3) (T := TX3) (N := 10) hx hb hts inG3 hown hK hP (61 + vk.toNatClampNeg) (gX_letter cs ad nu140 (61 + vk.toNatClampNeg) hk1.1 hk1.2) rfl 1 (by decide) (hts _ (List.mem_cons_of_mem _ mw_1_54)) (fun _ h9 => h9) rfl dX2_enterSale_181 ?_
  refine lv_topi (fun y154 ey154 => ?_)
  have hF := mi_let hF ey154
  have by154 : y154.toInt = (nu140 (61 + vk.toNatClampNeg) 1).toInt := congrArg Int32.toInt ey154
  have gy154 : 0 ≤ y154.toInt ∧ y154.toInt ≤ 6 := by rw [ey154]; exact rX_letter_1 ok (61 + vk.toNatClampNeg) hk1.1 hk1.2
  refine lv_icmp_ne (tgt := 191) hx hb dX2_enterSale_184 (by decide) (fun c_155 => ?_) (fun c_155 => ?_)
  · have hF := (if_neg c_155).symm.trans hF
    have c_155 : ¬ vx.toInt = y154.toInt := il_ne c_155
    refine lv_iconst (v := 0) hx hb dX2_enterSale_191 (by decide) ?_
    refine va_put (D := (dC, dI)) (ci := 3) (v := .int 0) (ty := .boolean) (C := RX3) (T := TX3) (N := 10) hx hb hts inG3 tyX3 tyX3_ok nmX3 hown hK hP (wR_D nu140 hD) hS (61 + vk.toNatClampNeg) (gX_letter cs ad nu140 (61 + vk.toNatClampNeg) hk1.1 hk1.2) rfl 9 (by decide) (hts _ (List.mem_cons_of_mem _ mw_1_78)) (fun _ h9 => h9) rfl (by decide +kernel) (by first | rfl | decide) (by first | rfl | decide) (Nat.le_of_ble_eq_true rfl) dX2_enterSale_192 (fun H locs hP _ hS => ?_)
    simp only [List.set_cons_succ, List.set_cons_zero] at hP
    refine wr_gen (upd (nu140 (61 + vk.toNatClampNeg)) 9 0) hP ((hX_letter_9 cs ad _ _ (61 + vk.toNatClampNeg) hk1.1 hk1.2)) (fun nu156 hn156 hP => ?_)
    have hF := mi_let hF hn156.symm
    have ok := tX_letter_9 ok (61 + vk.toNatClampNeg) hk1.1 hk1.2 hn156 (by have h9 : (0 : Int32).toInt = 0 := rfl; exact ⟨by omega, by omega⟩)
    have ez157 : vk = nu156 (77 + y3.toNatClampNeg) 1 := ez141.trans (congrFun (up_k hn156 (ne_gg hk4.1 (by decide) hk1.2)) 1).symm
    have ez158 : y13 = nu156 (77 + y3.toNatClampNeg) 2 := ez142.trans (congrFun (up_k hn156 (ne_gg hk4.1 (by decide) hk1.2)) 2).symm
    have ez159 : vx = nu156 (77 + y3.toNatClampNeg) 3 := ez143.trans (congrFun (up_k hn156 (ne_gg hk4.1 (by decide) hk1.2)) 3).symm
    have ez160 : r2 = nu156 (77 + y3.toNatClampNeg) 4 := ez144.trans (congrFun (up_k hn156 (ne_gg hk4.1 (by decide) hk1.2)) 4).symm
    have ez161 : y35 = nu156 (77 + y3.toNatClampNeg) 5 := ez145.trans (congrFun (up_k hn156 (ne_gg hk4.1 (by decide) hk1.2)) 5).symm
    have ez162 : y46 = nu156 (77 + y3.toNatClampNeg) 6 := ez146.trans (congrFun (up_k hn156 (ne_gg hk4.1 (by decide) hk1.2)) 6).symm
    have ez163 : t59 = nu156 6 1 := ez147.trans (congrFun (up_k hn156 (ne_lo (by decide) hk1.1)) 1).symm
    have ez164 : vx = nu156 (61 + vk.toNatClampNeg) 5 := ez148.trans (up_f hn156 (by decide)).symm
    have ez165 : r2 = nu156 (61 + vk.toNatClampNeg) 6 := ez149.trans (up_f hn156 (by decide)).symm
    have ez166 : y124 = nu156 5 3 := ez150.trans (congrFun (up_k hn156 (ne_lo (by decide) hk1.1)) 3).symm
    have ez167 : y124 = nu156 (61 + vk.toNatClampNeg) 7 := ez151.trans (up_f hn156 (by decide)).symm
    have ez168 : t139 = nu156 (61 + vk.toNatClampNeg) 8 := ez153.trans (up_f hn156 (by decide)).symm
    have ez169 : y154 = nu156 (61 + vk.toNatClampNeg) 1 := ey154.trans (up_f hn156 (by decide)).symm
    have kp170 : (∀ k f : Nat, Nat.testBit 486 (gpX k f) = true → nu156 k f = mu k f) := kp_c 3 hn156 (fun _ => gpX_letter hk1.1 hk1.2) (by decide) kp152
    have ez171 : 0 = nu156 (61 + vk.toNatClampNeg) 9 := up_v hn156
    refine lv_iload hx hb dX2_enterSale_195 (lv_at hl 1 rfl) ?_
    exact W.iret (v := r2) hx hb hr (fun t ht hW => ⟨⟨r2, nu156, rfl, ⟨hF.trans hfz.symm, ok, trivial, kp170⟩, by first | (subst ht; exact hP) | (rw [ht]; exact hP) | (show va_P (dC, dI) vwCl (wR 157 ad (EX cs ad) nu156) t.heap; rw [ht]; exact hP)⟩, hS.F ht⟩) hS.2.2 dX2_enterSale_197
  · have hF := (if_pos c_155).symm.trans hF
    have c_155 : vx.toInt = y154.toInt := il_eq c_155
    refine lv_iconst (v := 1) hx hb dX2_enterSale_187 (by decide) ?_
    refine lv_goto (tgt := 192) hx hb dX2_enterSale_188 (by decide) ?_
    refine va_put (D := (dC, dI)) (ci := 3) (v := .int 1) (ty := .boolean) (C := RX3) (T := TX3) (N := 10) hx hb hts inG3 tyX3 tyX3_ok nmX3 hown hK hP (wR_D nu140 hD) hS (61 + vk.toNatClampNeg) (gX_letter cs ad nu140 (61 + vk.toNatClampNeg) hk1.1 hk1.2) rfl 9 (by decide) (hts _ (List.mem_cons_of_mem _ mw_1_78)) (fun _ h9 => h9) rfl (by decide +kernel) (by first | rfl | decide) (by first | rfl | decide) (Nat.le_of_ble_eq_true rfl) dX2_enterSale_192 (fun H locs hP _ hS => ?_)
    simp only [List.set_cons_succ, List.set_cons_zero] at hP
    refine wr_gen (upd (nu140 (61 + vk.toNatClampNeg)) 9 1) hP ((hX_letter_9 cs ad _ _ (61 + vk.toNatClampNeg) hk1.1 hk1.2)) (fun nu172 hn172 hP => ?_)
    have hF := mi_let hF hn172.symm
    have ok := tX_letter_9 ok (61 + vk.toNatClampNeg) hk1.1 hk1.2 hn172 (by have h9 : (1 : Int32).toInt = 1 := rfl; exact ⟨by omega, by omega⟩)
    have ez173 : vk = nu172 (77 + y3.toNatClampNeg) 1 := ez141.trans (congrFun (up_k hn172 (ne_gg hk4.1 (by decide) hk1.2)) 1).symm
    have ez174 : y13 = nu172 (77 + y3.toNatClampNeg) 2 := ez142.trans (congrFun (up_k hn172 (ne_gg hk4.1 (by decide) hk1.2)) 2).symm
    have ez175 : vx = nu172 (77 + y3.toNatClampNeg) 3 := ez143.trans (congrFun (up_k hn172 (ne_gg hk4.1 (by decide) hk1.2)) 3).symm
    have ez176 : r2 = nu172 (77 + y3.toNatClampNeg) 4 := ez144.trans (congrFun (up_k hn172 (ne_gg hk4.1 (by decide) hk1.2)) 4).symm
    have ez177 : y35 = nu172 (77 + y3.toNatClampNeg) 5 := ez145.trans (congrFun (up_k hn172 (ne_gg hk4.1 (by decide) hk1.2)) 5).symm
    have ez178 : y46 = nu172 (77 + y3.toNatClampNeg) 6 := ez146.trans (congrFun (up_k hn172 (ne_gg hk4.1 (by decide) hk1.2)) 6).symm
    have ez179 : t59 = nu172 6 1 := ez147.trans (congrFun (up_k hn172 (ne_lo (by decide) hk1.1)) 1).symm
    have ez180 : vx = nu172 (61 + vk.toNatClampNeg) 5 := ez148.trans (up_f hn172 (by decide)).symm
    have ez181 : r2 = nu172 (61 + vk.toNatClampNeg) 6 := ez149.trans (up_f hn172 (by decide)).symm
    have ez182 : y124 = nu172 5 3 := ez150.trans (congrFun (up_k hn172 (ne_lo (by decide) hk1.1)) 3).symm
    have ez183 : y124 = nu172 (61 + vk.toNatClampNeg) 7 := ez151.trans (up_f hn172 (by decide)).symm
    have ez184 : t139 = nu172 (61 + vk.toNatClampNeg) 8 := ez153.trans (up_f hn172 (by decide)).symm
    have ez185 : y154 = nu172 (61 + vk.toNatClampNeg) 1 := ey154.trans (up_f hn172 (by decide)).symm
    have kp186 : (∀ k f : Nat, Nat.testBit 486 (gpX k f) = true → nu172 k f = mu k f) := kp_c 3 hn172 (fun _ => gpX_letter hk1.1 hk1.2) (by decide) kp152
    have ez187 : 1 = nu172 (61 + vk.toNatClampNeg) 9 := up_v hn172
    refine lv_iload hx hb dX2_enterSale_195 (lv_at hl 1 rfl) ?_
    exact W.iret (v := r2) hx hb hr (fun t ht hW => ⟨⟨r2, nu172, rfl, ⟨hF.trans hfz.symm, ok, trivial, kp186⟩, by first | (subst ht; exact hP) | (rw [ht]; exact hP) | (show va_P (dC, dI) vwCl (wR 157 ad (EX cs ad) nu172) t.heap; rw [ht]; exact hP)⟩, hS.F ht⟩) hS.2.2 dX2_enterSale_197
