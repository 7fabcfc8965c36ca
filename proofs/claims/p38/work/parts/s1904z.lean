set_option maxHeartbeats 4000000 in
set_option maxRecDepth 100000 in
/-- sx_enterSale -/
theorem sx_enterSale (l : Launch) (dC : Nat → ClassId) (dI : Nat → Nat → Nat) (cs : Nat → ClassId) (ad : Nat → Nat) (mu : Nat → Nat → Int32) (ok : okR loX hiX mu) (H : Heap) (hP : va_P (dC, dI) vwCl (wR 157 ad (EX cs ad) mu) H) (hD0 : va_D (fun _ => True) (wR 157 ad (EX cs ad) mu)) (vk : Int32) (vx : Int32) (hin0 : 0 ≤ vk.toInt ∧ vk.toInt ≤ 3 ∧ 0 ≤ vx.toInt ∧ vx.toInt ≤ 6) (hin1 : (mu 6 1).toInt ≤ 39) : Met l yX2_enterSale (wU yX2_enterSale cX2_enterSale 7 (some .int)) ({ frames := 2, cells := 0, slots := 0, locals := 60 }) (va_Pc [.ref (ad 6), .ref (ad 4), .int vk, .int vx] (sz_P (dC, dI) vwCl (tyW cs) H)) (va_Qi (fun (z : Int32) (xi : Nat → Nat → Int32) => (z, xi) = F_sx_enterSale mu vk vx ∧ okR loX hiX xi ∧ (True) ∧ (∀ k f : Nat, Nat.testBit 486 (gpX k f) = true → xi k f = mu k f)) (fun xi t => va_P (dC, dI) vwCl (wR 157 ad (EX cs ad) xi) t.heap) (va_A (wR 157 ad (EX cs ad) mu) H.size)) 0 0 (va_A (wR 157 ad (EX cs ad) mu) H.size) := by
  refine Met.ofW (cc := cX2_enterSale) (maxL := 7) (ret := (some .int)) (by decide) rfl ?_
  intro p e s m args below meth c s₁ B hml hv
  obtain ⟨rfl, hh, hK, hz⟩ := hv
  have hx := B.exec
  have hb := B.bytes
  have hr := B.returns
  have hts := atoms_spec (ws := (wU yX2_enterSale cX2_enterSale 7 (some .int))) B.pre
  have hown : s.vm.findClass RX2 = some m.cls := findClass_of_methodNamed B.named
  have hlocks := B.notSynchronized
  subst hh
  have hD := hD0.self (sz := s.heap.size)
  have hA : ∀ q : Nat, s.heap.size ≤ q → (va_A (wR 157 ad (EX cs ad) mu) s.heap.size) q := fun q h => Or.inr h
  have hS : va_S (va_A (wR 157 ad (EX cs ad) mu) s.heap.size) s.heap s.heap [] := va_S.rf
  have hl := lv_entry ([.ref (ad 6), .ref (ad 4), .int vk, .int vx]) (n := 7) (Nat.le_of_ble_eq_true rfl)
  rw [lg_entry_eq]
  generalize (lg_sl ([.ref (ad 6), .ref (ad 4), .int vk, .int vx]) ++ List.replicate (7 - (lg_sl ([.ref (ad 6), .ref (ad 4), .int vk, .int vx])).length) Slot.unset).toArray = ls at hl ⊢
  have hl : lv_has ls 7 [(0, .ref (ad 6)), (1, .ref (ad 4)), (2, .int vk), (3, .int vx)] := hl
  obtain ⟨fz, hfz⟩ : ∃ z, F_sx_enterSale mu vk vx = z := ⟨_, rfl⟩
  have hF := hfz
  unfold F_sx_enterSale at hF
  refine lv_aload_n hx hb dX2_enterSale_0 rfl (lv_at hl 1 rfl) ?_
  refine va_get (D := (dC, dI)) (ci := 10) (v := .ref (ad 5)) (C := RX10) (T := TX10) (N := 8) hx hb hts inG10 hown hK hP 4 (gX_4 cs ad mu) rfl 3 (by decide) (hts _ (List.mem_cons_of_mem _ mw_1_154)) (fun _ h9 => h9) rfl dX2_enterSale_1 ?_
  refine va_get (D := (dC, dI)) (ci := 8) (v := .ref (ad 47)) (C := RX8) (T := TX8) (N := 6) hx hb hts inG8 hown hK hP 5 (gX_5 cs ad mu) rfl 1 (by decide) (hts _ (List.mem_cons_of_mem _ mw_1_110)) (fun _ h9 => h9) rfl dX2_enterSale_4 ?_
  refine lv_iload_n hx hb dX2_enterSale_7 rfl (lv_at hl 2 rfl) ?_
  have hx1 : 0 ≤ vk.toInt ∧ vk.toInt < ((4 : Nat) : Int) := ⟨by omega, by omega⟩
  refine va_aldq hx hb hK hP 47 5 (gX_47 cs ad mu) rfl (show vp_in vk 4 from vi_of hx1.1 hx1.2) dX2_enterSale_8 ?_
  have hk1 : 61 ≤ (61 + vk.toNatClampNeg) ∧ (61 + vk.toNatClampNeg) < 65 := ix_of hx1
  have hk1 : 61 ≤ (61 + vk.toNatClampNeg) ∧ (61 + vk.toNatClampNeg) < 77 := ⟨Nat.le_trans (by decide) hk1.1, Nat.lt_of_lt_of_le hk1.2 (by decide)⟩
  refine lq_v (.ref (ad (61 + vk.toNatClampNeg))) rfl ?_
  refine lv_astore (lv' := [(4, .ref (ad (61 + vk.toNatClampNeg))), (0, .ref (ad 6)), (1, .ref (ad 4)), (2, .int vk), (3, .int vx)]) hx hb dX2_enterSale_9 hl (by decide) rfl (fun ls hl => ?_)
  refine lv_aload_n hx hb dX2_enterSale_11 rfl (lv_at hl 2 rfl) ?_
  refine lv_aload hx hb dX2_enterSale_12 (lv_at hl 0 rfl) ?_
  refine cr_i (va_runV (As := [.ref (ad (61 + vk.toNatClampNeg))]) (rest := []) ⟨hx, hb, hml, hown, hts⟩ (sx_priceOf l dC dI cs ad mu ok s.heap hP (61 + vk.toNatClampNeg) hk1.1 hk1.2) (cwV 1 hts (wU_V mw_3_165 mw_3_183 mw_3_163 mw_3_164 mw_1_2) rfl rfl rfl (by decide +kernel) ⟨Nat.le_of_ble_eq_true rfl, Nat.le_of_ble_eq_true rfl⟩) ⟨sz_c, va_recv hK hP (ci := 10) (q0 := 4) rfl (gX_4 cs ad mu), sz_m hK hz⟩ rfl rfl hl.1 rfl (lv_room (Nat.le_of_ble_eq_true rfl)) dX2_enterSale_14 ⟨Nat.zero_le _, Nat.zero_le _⟩) hS (fun r2 hw2 locs hS => ?_)
  obtain ⟨hfe2, hw2⟩ := hw2
  have hF := mi_let hF hfe2
  refine lv_istore (lv' := [(5, .int r2), (4, .ref (ad (61 + vk.toNatClampNeg))), (0, .ref (ad 6)), (1, .ref (ad 4)), (2, .int vk), (3, .int vx)]) hx hb dX2_enterSale_17 hl (by decide) rfl (fun ls hl => ?_)
  refine lv_aload_n hx hb dX2_enterSale_19 rfl (lv_at hl 2 rfl) ?_
  refine va_get (D := (dC, dI)) (ci := 2) (v := .ref (ad 39)) (C := RX2) (T := TX2) (N := 2) hx hb hts inG2 hown hK hP 6 (gX_6 cs ad mu) rfl 0 (by decide) (hts _ (List.mem_cons_of_mem _ mw_2_6)) (fun _ h9 => h9) rfl dX2_enterSale_20 ?_
  refine lv_aload_n hx hb dX2_enterSale_23 rfl (lv_at hl 2 rfl) ?_
  refine va_get (D := (dC, dI)) (ci := 2) (v := .int (mu 6 1)) (C := RX2) (T := TX2) (N := 2) hx hb hts inG2 hown hK hP 6 (gX_6 cs ad mu) rfl 1 (by decide) (hts _ (List.mem_cons_of_mem _ mw_2_7)) (fun _ h9 => h9) rfl dX2_enterSale_24 ?_
  refine lv_topi (fun y3 ey3 => ?_)
  have hF := mi_let hF ey3
  have by3 : y3.toInt = (mu 6 1).toInt := congrArg Int32.toInt ey3
  have gy3 : 0 ≤ y3.toInt ∧ y3.toInt ≤ 40 := by rw [ey3]; exact rX_6_1 ok
  have hx4 : 0 ≤ y3.toInt ∧ y3.toInt < ((40 : Nat) : Int) := ⟨by omega, by omega⟩
  refine va_aldq hx hb hK hP 39 6 (gX_39 cs ad mu) rfl (show vp_in y3 40 from vi_of hx4.1 hx4.2) dX2_enterSale_27 ?_
  have hk4 : 77 ≤ (77 + y3.toNatClampNeg) ∧ (77 + y3.toNatClampNeg) < 117 := ix_of hx4
  refine lq_v (.ref (ad (77 + y3.toNatClampNeg))) rfl ?_
  refine lv_astore (lv' := [(6, .ref (ad (77 + y3.toNatClampNeg))), (5, .int r2), (4, .ref (ad (61 + vk.toNatClampNeg))), (0, .ref (ad 6)), (1, .ref (ad 4)), (2, .int vk), (3, .int vx)]) hx hb dX2_enterSale_28 hl (by decide) rfl (fun ls hl => ?_)
  refine lv_aload_n hx hb dX2_enterSale_30 rfl (lv_at hl 4 rfl) ?_
  refine va_get (D := (dC, dI)) (ci := 10) (v := .ref (ad 5)) (C := RX10) (T := TX10) (N := 8) hx hb hts inG10 hown hK hP 4 (gX_4 cs ad mu) rfl 3 (by decide) (hts _ (List.mem_cons_of_mem _ mw_1_154)) (fun _ h9 => h9) rfl dX2_enterSale_31 ?_
  refine va_get (D := (dC, dI)) (ci := 8) (v := .ref (ad 46)) (C := RX8) (T := TX8) (N := 6) hx hb hts inG8 hown hK hP 5 (gX_5 cs ad mu) rfl 0 (by decide) (hts _ (List.mem_cons_of_mem _ mw_1_105)) (fun _ h9 => h9) rfl dX2_enterSale_34 ?_
  refine lv_iconst (v := 0) hx hb dX2_enterSale_37 (by decide) ?_
  refine lv_aload hx hb dX2_enterSale_38 (lv_at hl 0 rfl) ?_
  have hk5 : 117 ≤ (77 + y3.toNatClampNeg) + 40 ∧ (77 + y3.toNatClampNeg) + 40 < 157 := add_in 40 hk4.1 hk4.2
  refine va_get (D := (dC, dI)) (ci := 7) (v := .ref (ad ((77 + y3.toNatClampNeg) + 40))) (C := RX7) (T := TX7) (N := 7) hx hb hts inG7 hown hK hP (77 + y3.toNatClampNeg) (gX_sale cs ad mu (77 + y3.toNatClampNeg) hk4.1 hk4.2) rfl 0 (by decide) (hts _ (List.mem_cons_of_mem _ mw_1_224)) (fun _ h9 => h9) rfl dX2_enterSale_40 ?_
  refine lv_iconst (v := 0) hx hb dX2_enterSale_43 (by decide) ?_
  refine lv_bipush (v := 7) hx hb dX2_enterSale_44 (by decide) ?_
  refine va_copyi hx hb (hml.trans hl.1.symm) hown (hts _ (List.mem_cons_of_mem _ mw_3_184)) (hts _ (List.mem_cons_of_mem _ mw_3_4)) (hts _ (List.mem_cons_of_mem _ mw_3_3)) (hts _ (List.mem_cons_of_mem _ mw_1_15)) hK hP (wR_D mu hD) hS 46 ((77 + y3.toNatClampNeg) + 40) 0 0 (gX_46 cs ad mu) (gX_spurses cs ad mu ((77 + y3.toNatClampNeg) + 40) hk5.1 hk5.2) rfl rfl rfl (by decide) (by decide) (by decide) (by have ua : ((0 : Int32).toNatClampNeg : Int) = 0 := rfl; have ub : ((0 : Int32).toNatClampNeg : Int) = 0 := rfl; have uc : ((7 : Int32).toNatClampNeg : Int) = 7 := rfl; omega) (by have ua : ((0 : Int32).toNatClampNeg : Int) = 0 := rfl; have ub : ((0 : Int32).toNatClampNeg : Int) = 0 := rfl; have uc : ((7 : Int32).toNatClampNeg : Int) = 7 := rfl; omega) (fun _ _ => rfl) (Nat.le_of_ble_eq_true rfl) (Nat.le_of_ble_eq_true rfl) dX2_enterSale_46 (fun H locs hP _ hS => ?_)
  refine wr_gen (va_cpy (mu 46) (mu ((77 + y3.toNatClampNeg) + 40)) (0 : Int32).toNatClampNeg (0 : Int32).toNatClampNeg (7 : Int32).toNatClampNeg) hP ((by rw [EX_spurses cs ad _ _ hk5.1 hk5.2])) (fun nu6 hn6 hP => ?_)
  have hF := mi_let hF hn6.symm
  have ok := okR_cp ok hn6 (cX_46_spurses  ((77 + y3.toNatClampNeg) + 40) hk5.1 hk5.2)
  have ez7 : y3 = nu6 6 1 := ey3.trans (congrFun (up_k hn6 (ne_lo (by decide) hk5.1)) 1).symm
  have kp8 : (∀ k f : Nat, Nat.testBit 486 (gpX k f) = true → nu6 k f = mu k f) := kp_c 4 hn6 (fun _ => gpX_spurses hk5.1 hk5.2) (by decide) (fun _ _ _ => rfl)
  refine lv_aload hx hb dX2_enterSale_49 (lv_at hl 0 rfl) ?_
  refine lv_iload_n hx hb dX2_enterSale_51 rfl (lv_at hl 5 rfl) ?_
  refine va_put (D := (dC, dI)) (ci := 7) (v := .int vk) (ty := .int) (C := RX7) (T := TX7) (N := 7) hx hb hts inG7 tyX7 tyX7_ok nmX7 hown hK hP (wR_D nu6 hD) hS (77 + y3.toNatClampNeg) (gX_sale cs ad nu6 (77 + y3.toNatClampNeg) hk4.1 hk4.2) rfl 1 (by decide) (hts _ (List.mem_cons_of_mem _ mw_1_225)) (fun _ h9 => h9) rfl (by decide +kernel) rfl rfl (Nat.le_of_ble_eq_true rfl) dX2_enterSale_52 (fun H locs hP _ hS => ?_)
  simp only [List.set_cons_succ, List.set_cons_zero] at hP
  refine wr_gen (upd (nu6 (77 + y3.toNatClampNeg)) 1 vk) hP ((hX_sale_1 cs ad _ _ (77 + y3.toNatClampNeg) hk4.1 hk4.2)) (fun nu9 hn9 hP => ?_)
  have hF := mi_let hF hn9.symm
  have ok := tX_sale_1 ok (77 + y3.toNatClampNeg) hk4.1 hk4.2 hn9 (by omega)
  have ez10 : y3 = nu9 6 1 := ez7.trans (congrFun (up_k hn9 (ne_lo (by decide) hk4.1)) 1).symm
  have kp11 : (∀ k f : Nat, Nat.testBit 486 (gpX k f) = true → nu9 k f = mu k f) := kp_c 4 hn9 (fun _ => gpX_sale hk4.1 hk4.2) (by decide) kp8
  have ez12 : vk = nu9 (77 + y3.toNatClampNeg) 1 := up_v hn9
  refine lv_aload hx hb dX2_enterSale_55 (lv_at hl 0 rfl) ?_
  refine lv_aload hx hb dX2_enterSale_57 (lv_at hl 2 rfl) ?_
  refine va_get (D := (dC, dI)) (ci := 3) (v := .int (nu9 (61 + vk.toNatClampNeg) 5)) (C := RX3) (T := TX3) (N := 10) hx hb hts inG3 hown hK hP (61 + vk.toNatClampNeg) (gX_letter cs ad nu9 (61 + vk.toNatClampNeg) hk1.1 hk1.2) rfl 5 (by decide) (hts _ (List.mem_cons_of_mem _ mw_1_63)) (fun _ h9 => h9) rfl dX2_enterSale_59 ?_
  refine lv_topi (fun y13 ey13 => ?_)
  have hF := mi_let hF ey13
  have by13 : y13.toInt = (nu9 (61 + vk.toNatClampNeg) 5).toInt := congrArg Int32.toInt ey13
  have gy13 : 0 ≤ y13.toInt ∧ y13.toInt ≤ 6 := by rw [ey13]; exact rX_letter_5 ok (61 + vk.toNatClampNeg) hk1.1 hk1.2
  refine va_put (D := (dC, dI)) (ci := 7) (v := .int y13) (ty := .int) (C := RX7) (T := TX7) (N := 7) hx hb hts inG7 tyX7 tyX7_ok nmX7 hown hK hP (wR_D nu9 hD) hS (77 + y3.toNatClampNeg) (gX_sale cs ad nu9 (77 + y3.toNatClampNeg) hk4.1 hk4.2) rfl 2 (by decide) (hts _ (List.mem_cons_of_mem _ mw_1_226)) (fun _ h9 => h9) rfl (by decide +kernel) rfl rfl (Nat.le_of_ble_eq_true rfl) dX2_enterSale_62 (fun H locs hP _ hS => ?_)
  simp only [List.set_cons_succ, List.set_cons_zero] at hP
  refine wr_gen (upd (nu9 (77 + y3.toNatClampNeg)) 2 y13) hP ((hX_sale_2 cs ad _ _ (77 + y3.toNatClampNeg) hk4.1 hk4.2)) (fun nu14 hn14 hP => ?_)
  have hF := mi_let hF hn14.symm
  have ok := tX_sale_2 ok (77 + y3.toNatClampNeg) hk4.1 hk4.2 hn14 (by omega)
  have ez15 : y3 = nu14 6 1 := ez10.trans (congrFun (up_k hn14 (ne_lo (by decide) hk4.1)) 1).symm
  have ez16 : vk = nu14 (77 + y3.toNatClampNeg) 1 := ez12.trans (up_f hn14 (by decide)).symm
  have ez17 : y13 = nu14 (61 + vk.toNatClampNeg) 5 := ey13.trans (congrFun (up_k hn14 (ne_ff hk1.2 (by decide) hk4.1)) 5).symm
  have kp18 : (∀ k f : Nat, Nat.testBit 486 (gpX k f) = true → nu14 k f = mu k f) := kp_c 4 hn14 (fun _ => gpX_sale hk4.1 hk4.2) (by decide) kp11
  have ez19 : y13 = nu14 (77 + y3.toNatClampNeg) 2 := up_v hn14
  refine lv_aload hx hb dX2_enterSale_65 (lv_at hl 0 rfl) ?_
  refine lv_iload_n hx hb dX2_enterSale_67 rfl (lv_at hl 6 rfl) ?_
  refine va_put (D := (dC, dI)) (ci := 7) (v := .int vx) (ty := .int) (C := RX7) (T := TX7) (N := 7) hx hb hts inG7 tyX7 tyX7_ok nmX7 hown hK hP (wR_D nu14 hD) hS (77 + y3.toNatClampNeg) (gX_sale cs ad nu14 (77 + y3.toNatClampNeg) hk4.1 hk4.2) rfl 3 (by decide) (hts _ (List.mem_cons_of_mem _ mw_1_227)) (fun _ h9 => h9) rfl (by decide +kernel) rfl rfl (Nat.le_of_ble_eq_true rfl) dX2_enterSale_68 (fun H locs hP _ hS => ?_)
  simp only [List.set_cons_succ, List.set_cons_zero] at hP
  refine wr_gen (upd (nu14 (77 + y3.toNatClampNeg)) 3 vx) hP ((hX_sale_3 cs ad _ _ (77 + y3.toNatClampNeg) hk4.1 hk4.2)) (fun nu20 hn20 hP => ?_)
  have hF := mi_let hF hn20.symm
  have ok := tX_sale_3 ok (77 + y3.toNatClampNeg) hk4.1 hk4.2 hn20
  have ez21 : y3 = nu20 6 1 := ez15.trans (congrFun (up_k hn20 (ne_lo (by decide) hk4.1)) 1).symm
  have ez22 : vk = nu20 (77 + y3.toNatClampNeg) 1 := ez16.trans (up_f hn20 (by decide)).symm
  have ez23 : y13 = nu20 (61 + vk.toNatClampNeg) 5 := ez17.trans (congrFun (up_k hn20 (ne_ff hk1.2 (by decide) hk4.1)) 5).symm
  have ez24 : y13 = nu20 (77 + y3.toNatClampNeg) 2 := ez19.trans (up_f hn20 (by decide)).symm
  have kp25 : (∀ k f : Nat, Nat.testBit 486 (gpX k f) = true → nu20 k f = mu k f) := kp_c 4 hn20 (fun _ => gpX_sale hk4.1 hk4.2) (by decide) kp18
  have ez26 : vx = nu20 (77 + y3.toNatClampNeg) 3 := up_v hn20
  refine lv_aload hx hb dX2_enterSale_71 (lv_at hl 0 rfl) ?_
  refine lv_iload hx hb dX2_enterSale_73 (lv_at hl 1 rfl) ?_
  refine va_put (D := (dC, dI)) (ci := 7) (v := .int r2) (ty := .int) (C := RX7) (T := TX7) (N := 7) hx hb hts inG7 tyX7 tyX7_ok nmX7 hown hK hP (wR_D nu20 hD) hS (77 + y3.toNatClampNeg) (gX_sale cs ad nu20 (77 + y3.toNatClampNeg) hk4.1 hk4.2) rfl 4 (by decide) (hts _ (List.mem_cons_of_mem _ mw_1_228)) (fun _ h9 => h9) rfl (by decide +kernel) rfl rfl (Nat.le_of_ble_eq_true rfl) dX2_enterSale_75 (fun H locs hP _ hS => ?_)
  simp only [List.set_cons_succ, List.set_cons_zero] at hP
  refine wr_gen (upd (nu20 (77 + y3.toNatClampNeg)) 4 r2) hP ((hX_sale_4 cs ad _ _ (77 + y3.toNatClampNeg) hk4.1 hk4.2)) (fun nu27 hn27 hP => ?_)
  have hF := mi_let hF hn27.symm
  have ok := tX_sale_4 ok (77 + y3.toNatClampNeg) hk4.1 hk4.2 hn27
  have ez28 : y3 = nu27 6 1 := ez21.trans (congrFun (up_k hn27 (ne_lo (by decide) hk4.1)) 1).symm
  have ez29 : vk = nu27 (77 + y3.toNatClampNeg) 1 := ez22.trans (up_f hn27 (by decide)).symm
  have ez30 : y13 = nu27 (61 + vk.toNatClampNeg) 5 := ez23.trans (congrFun (up_k hn27 (ne_ff hk1.2 (by decide) hk4.1)) 5).symm
  have ez31 : y13 = nu27 (77 + y3.toNatClampNeg) 2 := ez24.trans (up_f hn27 (by decide)).symm
  have ez32 : vx = nu27 (77 + y3.toNatClampNeg) 3 := ez26.trans (up_f hn27 (by decide)).symm
  have kp33 : (∀ k f : Nat, Nat.testBit 486 (gpX k f) = true → nu27 k f = mu k f) := kp_c 4 hn27 (fun _ => gpX_sale hk4.1 hk4.2) (by decide) kp25
  have ez34 : r2 = nu27 (77 + y3.toNatClampNeg) 4 := up_v hn27
  refine lv_aload hx hb dX2_enterSale_78 (lv_at hl 0 rfl) ?_
  refine lv_aload hx hb dX2_enterSale_80 (lv_at hl 2 rfl) ?_
  refine va_get (D := (dC, dI)) (ci := 3) (v := .int (nu27 (61 + vk.toNatClampNeg) 6)) (C := RX3) (T := TX3) (N := 10) hx hb hts inG3 hown hK hP (61 + vk.toNatClampNeg) (gX_letter cs ad nu27 (61 + vk.toNatClampNeg) hk1.1 hk1.2) rfl 6 (by decide) (hts _ (List.mem_cons_of_mem _ mw_1_68)) (fun _ h9 => h9) rfl dX2_enterSale_82 ?_
  refine lv_topi (fun y35 ey35 => ?_)
  have hF := mi_let hF ey35
  have by35 : y35.toInt = (nu27 (61 + vk.toNatClampNeg) 6).toInt := congrArg Int32.toInt ey35
  refine va_put (D := (dC, dI)) (ci := 7) (v := .int y35) (ty := .int) (C := RX7) (T := TX7) (N := 7) hx hb hts inG7 tyX7 tyX7_ok nmX7 hown hK hP (wR_D nu27 hD) hS (77 + y3.toNatClampNeg) (gX_sale cs ad nu27 (77 + y3.toNatClampNeg) hk4.1 hk4.2) rfl 5 (by decide) (hts _ (List.mem_cons_of_mem _ mw_1_229)) (fun _ h9 => h9) rfl (by decide +kernel) rfl rfl (Nat.le_of_ble_eq_true rfl) dX2_enterSale_85 (fun H locs hP _ hS => ?_)
  simp only [List.set_cons_succ, List.set_cons_zero] at hP
  refine wr_gen (upd (nu27 (77 + y3.toNatClampNeg)) 5 y35) hP ((hX_sale_5 cs ad _ _ (77 + y3.toNatClampNeg) hk4.1 hk4.2)) (fun nu36 hn36 hP => ?_)
  have hF := mi_let hF hn36.symm
  have ok := tX_sale_5 ok (77 + y3.toNatClampNeg) hk4.1 hk4.2 hn36
  have ez37 : y3 = nu36 6 1 := ez28.trans (congrFun (up_k hn36 (ne_lo (by decide) hk4.1)) 1).symm
  have ez38 : vk = nu36 (77 + y3.toNatClampNeg) 1 := ez29.trans (up_f hn36 (by decide)).symm
  have ez39 : y13 = nu36 (61 + vk.toNatClampNeg) 5 := ez30.trans (congrFun (up_k hn36 (ne_ff hk1.2 (by decide) hk4.1)) 5).symm
  have ez40 : y13 = nu36 (77 + y3.toNatClampNeg) 2 := ez31.trans (up_f hn36 (by decide)).symm
  have ez41 : vx = nu36 (77 + y3.toNatClampNeg) 3 := ez32.trans (up_f hn36 (by decide)).symm
  have ez42 : r2 = nu36 (77 + y3.toNatClampNeg) 4 := ez34.trans (up_f hn36 (by decide)).symm
  have ez43 : y35 = nu36 (61 + vk.toNatClampNeg) 6 := ey35.trans (congrFun (up_k hn36 (ne_ff hk1.2 (by decide) hk4.1)) 6).symm
  have kp44 : (∀ k f : Nat, Nat.testBit 486 (gpX k f) = true → nu36 k f = mu k f) := kp_c 4 hn36 (fun _ => gpX_sale hk4.1 hk4.2) (by decide) kp33
  have ez45 : y35 = nu36 (77 + y3.toNatClampNeg) 5 := up_v hn36
  refine lv_aload hx hb dX2_enterSale_88 (lv_at hl 0 rfl) ?_
  refine lv_aload hx hb dX2_enterSale_90 (lv_at hl 2 rfl) ?_
  refine va_get (D := (dC, dI)) (ci := 3) (v := .int (nu36 (61 + vk.toNatClampNeg) 7)) (C := RX3) (T := TX3) (N := 10) hx hb hts inG3 hown hK hP (61 + vk.toNatClampNeg) (gX_letter cs ad nu36 (61 + vk.toNatClampNeg) hk1.1 hk1.2) rfl 7 (by decide) (hts _ (List.mem_cons_of_mem _ mw_1_73)) (fun _ h9 => h9) rfl dX2_enterSale_92 ?_
  refine lv_topi (fun y46 ey46 => ?_)
  have hF := mi_let hF ey46
  have by46 : y46.toInt = (nu36 (61 + vk.toNatClampNeg) 7).toInt := congrArg Int32.toInt ey46
  refine va_put (D := (dC, dI)) (ci := 7) (v := .int y46) (ty := .int) (C := RX7) (T := TX7) (N := 7) hx hb hts inG7 tyX7 tyX7_ok nmX7 hown hK hP (wR_D nu36 hD) hS (77 + y3.toNatClampNeg) (gX_sale cs ad nu36 (77 + y3.toNatClampNeg) hk4.1 hk4.2) rfl 6 (by decide) (hts _ (List.mem_cons_of_mem _ mw_1_230)) (fun _ h9 => h9) rfl (by decide +kernel) rfl rfl (Nat.le_of_ble_eq_true rfl) dX2_enterSale_95 (fun H locs hP _ hS => ?_)
  simp only [List.set_cons_succ, List.set_cons_zero] at hP
  refine wr_gen (upd (nu36 (77 + y3.toNatClampNeg)) 6 y46) hP ((hX_sale_6 cs ad _ _ (77 + y3.toNatClampNeg) hk4.1 hk4.2)) (fun nu47 hn47 hP => ?_)
  have hF := mi_let hF hn47.symm
  have ok := tX_sale_6 ok (77 + y3.toNatClampNeg) hk4.1 hk4.2 hn47
  have ez48 : y3 = nu47 6 1 := ez37.trans (congrFun (up_k hn47 (ne_lo (by decide) hk4.1)) 1).symm
  have ez49 : vk = nu47 (77 + y3.toNatClampNeg) 1 := ez38.trans (up_f hn47 (by decide)).symm
  have ez50 : y13 = nu47 (61 + vk.toNatClampNeg) 5 := ez39.trans (congrFun (up_k hn47 (ne_ff hk1.2 (by decide) hk4.1)) 5).symm
  have ez51 : y13 = nu47 (77 + y3.toNatClampNeg) 2 := ez40.trans (up_f hn47 (by decide)).symm
  have ez52 : vx = nu47 (77 + y3.toNatClampNeg) 3 := ez41.trans (up_f hn47 (by decide)).symm
  have ez53 : r2 = nu47 (77 + y3.toNatClampNeg) 4 := ez42.trans (up_f hn47 (by decide)).symm
  have ez54 : y35 = nu47 (61 + vk.toNatClampNeg) 6 := ez43.trans (congrFun (up_k hn47 (ne_ff hk1.2 (by decide) hk4.1)) 6).symm
  have ez55 : y35 = nu47 (77 + y3.toNatClampNeg) 5 := ez45.trans (up_f hn47 (by decide)).symm
  have ez56 : y46 = nu47 (61 + vk.toNatClampNeg) 7 := ey46.trans (congrFun (up_k hn47 (ne_ff hk1.2 (by decide) hk4.1)) 7).symm
  have kp57 : (∀ k f : Nat, Nat.testBit 486 (gpX k f) = true → nu47 k f = mu k f) := kp_c 4 hn47 (fun _ => gpX_sale hk4.1 hk4.2) (by decide) kp44
  have ez58 : y46 = nu47 (77 + y3.toNatClampNeg) 6 := up_v hn47
  refine lv_aload_n hx hb dX2_enterSale_98 rfl (lv_at hl 3 rfl) ?_
  refine lv_dup hx hb dX2_enterSale_99 rfl ?_
  refine va_get (D := (dC, dI)) (ci := 2) (v := .int (nu47 6 1)) (C := RX2) (T := TX2) (N := 2) hx hb hts inG2 hown hK hP 6 (gX_6 cs ad nu47) rfl 1 (by decide) (hts _ (List.mem_cons_of_mem _ mw_2_7)) (fun _ h9 => h9) rfl dX2_enterSale_100 ?_
  refine lq_i y3 ez48.symm ?_
  refine lv_iconst (v := 1) hx hb dX2_enterSale_103 (by decide) ?_
  refine lv_iadd hx hb dX2_enterSale_104 ?_
  refine lv_topi (fun t59 et59 => ?_)
  have hF := mi_let hF et59
  have at59 : t59.toInt = y3.toInt + 1 := by rw [et59]; exact va1 (by omega)
  refine va_put (D := (dC, dI)) (ci := 2) (v := .int t59) (ty := .int) (C := RX2) (T := TX2) (N := 2) hx hb hts inG2 tyX2 tyX2_ok nmX2 hown hK hP (wR_D nu47 hD) hS 6 (gX_6 cs ad nu47) rfl 1 (by decide) (hts _ (List.mem_cons_of_mem _ mw_2_7)) (fun _ h9 => h9) rfl (by decide +kernel) rfl rfl (Nat.le_of_ble_eq_true rfl) dX2_enterSale_105 (fun H locs hP _ hS => ?_)
  simp only [List.set_cons_succ, List.set_cons_zero] at hP
  refine wr_gen (upd (nu47 6) 1 t59) hP ((hX_6_1 cs ad _ _)) (fun nu60 hn60 hP => ?_)
  have hF := mi_let hF hn60.symm
  have ok := tX_6_1 ok hn60 (by omega)
  have ez61 : vk = nu60 (77 + y3.toNatClampNeg) 1 := ez49.trans (congrFun (up_k hn60 (ne_lo (by decide) hk4.1).symm) 1).symm
  have ez62 : y13 = nu60 (61 + vk.toNatClampNeg) 5 := ez50.trans (congrFun (up_k hn60 (ne_lo (by decide) hk1.1).symm) 5).symm
  have ez63 : y13 = nu60 (77 + y3.toNatClampNeg) 2 := ez51.trans (congrFun (up_k hn60 (ne_lo (by decide) hk4.1).symm) 2).symm
  have ez64 : vx = nu60 (77 + y3.toNatClampNeg) 3 := ez52.trans (congrFun (up_k hn60 (ne_lo (by decide) hk4.1).symm) 3).symm
  have ez65 : r2 = nu60 (77 + y3.toNatClampNeg) 4 := ez53.trans (congrFun (up_k hn60 (ne_lo (by decide) hk4.1).symm) 4).symm
  have ez66 : y35 = nu60 (61 + vk.toNatClampNeg) 6 := ez54.trans (congrFun (up_k hn60 (ne_lo (by decide) hk1.1).symm) 6).symm
  have ez67 : y35 = nu60 (77 + y3.toNatClampNeg) 5 := ez55.trans (congrFun (up_k hn60 (ne_lo (by decide) hk4.1).symm) 5).symm
  have ez68 : y46 = nu60 (61 + vk.toNatClampNeg) 7 := ez56.trans (congrFun (up_k hn60 (ne_lo (by decide) hk1.1).symm) 7).symm
  have ez69 : y46 = nu60 (77 + y3.toNatClampNeg) 6 := ez58.trans (congrFun (up_k hn60 (ne_lo (by decide) hk4.1).symm) 6).symm
  have kp70 : (∀ k f : Nat, Nat.testBit 486 (gpX k f) = true → nu60 k f = mu k f) := kp_c 4 hn60 (fun _ => rfl) (by decide) kp57
  have ez71 : t59 = nu60 6 1 := up_v hn60
  refine lv_aload_n hx hb dX2_enterSale_108 rfl (lv_at hl 4 rfl) ?_
  refine va_get (D := (dC, dI)) (ci := 10) (v := .ref (ad 5)) (C := RX10) (T := TX10) (N := 8) hx hb hts inG10 hown hK hP 4 (gX_4 cs ad nu60) rfl 3 (by decide) (hts _ (List.mem_cons_of_mem _ mw_1_154)) (fun _ h9 => h9) rfl dX2_enterSale_109 ?_
  refine va_get (D := (dC, dI)) (ci := 8) (v := .ref (ad 46)) (C := RX8) (T := TX8) (N := 6) hx hb hts inG8 hown hK hP 5 (gX_5 cs ad nu60) rfl 0 (by decide) (hts _ (List.mem_cons_of_mem _ mw_1_105)) (fun _ h9 => h9) rfl dX2_enterSale_112 ?_
  refine lv_iload_n hx hb dX2_enterSale_115 rfl (lv_at hl 6 rfl) ?_
  refine lv_dup2_11 hx hb dX2_enterSale_116 rfl rfl ?_
  refine va_iald hx hb hK hP 46 0 (gX_46 cs ad nu60) rfl (show vp_in vx 7 from vi_of (by omega) (by omega)) dX2_enterSale_117 ?_
  refine lv_topi (fun y72 ey72 => ?_)
  have hF := mi_let hF ey72
  have by72 : y72.toInt = (nu60 46 vx.toNatClampNeg).toInt := congrArg Int32.toInt ey72
  refine lv_iload hx hb dX2_enterSale_118 (lv_at hl 1 rfl) ?_
  refine lv_isub hx hb dX2_enterSale_120 ?_
  refine lv_topi (fun t73 et73 => ?_)
  have hF := mi_let hF et73
  refine va_iast hx hb hK hP (wR_D nu60 hD) hS 46 0 (gX_46 cs ad nu60) rfl (show vp_in vx 7 from vi_of (by omega) (by omega)) dX2_enterSale_121 (fun H locs hP _ hS => ?_)
  refine wr_gen (upd (nu60 46) vx.toNatClampNeg t73) hP (rfl) (fun nu74 hn74 hP => ?_)
  have hF := mi_let hF hn74.symm
  have ok := tX_46_s ok vx.toNatClampNeg hn74
  have ez75 : vk = nu74 (77 + y3.toNatClampNeg) 1 := ez61.trans (congrFun (up_k hn74 (ne_lo (by decide) hk4.1).symm) 1).symm
  have ez76 : y13 = nu74 (61 + vk.toNatClampNeg) 5 := ez62.trans (congrFun (up_k hn74 (ne_lo (by decide) hk1.1).symm) 5).symm
  have ez77 : y13 = nu74 (77 + y3.toNatClampNeg) 2 := ez63.trans (congrFun (up_k hn74 (ne_lo (by decide) hk4.1).symm) 2).symm
  have ez78 : vx = nu74 (77 + y3.toNatClampNeg) 3 := ez64.trans (congrFun (up_k hn74 (ne_lo (by decide) hk4.1).symm) 3).symm
  have ez79 : r2 = nu74 (77 + y3.toNatClampNeg) 4 := ez65.trans (congrFun (up_k hn74 (ne_lo (by decide) hk4.1).symm) 4).symm
  have ez80 : y35 = nu74 (61 + vk.toNatClampNeg) 6 := ez66.trans (congrFun (up_k hn74 (ne_lo (by decide) hk1.1).symm) 6).symm
  have ez81 : y35 = nu74 (77 + y3.toNatClampNeg) 5 := ez67.trans (congrFun (up_k hn74 (ne_lo (by decide) hk4.1).symm) 5).symm
  have ez82 : y46 = nu74 (61 + vk.toNatClampNeg) 7 := ez68.trans (congrFun (up_k hn74 (ne_lo (by decide) hk1.1).symm) 7).symm
  have ez83 : y46 = nu74 (77 + y3.toNatClampNeg) 6 := ez69.trans (congrFun (up_k hn74 (ne_lo (by decide) hk4.1).symm) 6).symm
  have ez84 : t59 = nu74 6 1 := ez71.trans (congrFun (up_k hn74 (by decide)) 1).symm
  have kp85 : (∀ k f : Nat, Nat.testBit 486 (gpX k f) = true → nu74 k f = mu k f) := kp_c 3 hn74 (fun _ => rfl) (by decide) kp70
  refine lv_aload_n hx hb dX2_enterSale_122 rfl (lv_at hl 4 rfl) ?_
  refine va_get (D := (dC, dI)) (ci := 10) (v := .ref (ad 5)) (C := RX10) (T := TX10) (N := 8) hx hb hts inG10 hown hK hP 4 (gX_4 cs ad nu74) rfl 3 (by decide) (hts _ (List.mem_cons_of_mem _ mw_1_154)) (fun _ h9 => h9) rfl dX2_enterSale_123 ?_
  refine va_get (D := (dC, dI)) (ci := 8) (v := .ref (ad 46)) (C := RX8) (T := TX8) (N := 6) hx hb hts inG8 hown hK hP 5 (gX_5 cs ad nu74) rfl 0 (by decide) (hts _ (List.mem_cons_of_mem _ mw_1_105)) (fun _ h9 => h9) rfl dX2_enterSale_126 ?_
  refine lv_aload hx hb dX2_enterSale_129 (lv_at hl 2 rfl) ?_
  refine va_get (D := (dC, dI)) (ci := 3) (v := .int (nu74 (61 + vk.toNatClampNeg) 5)) (C := RX3) (T := TX3) (N := 10) hx hb hts inG3 hown hK hP (61 + vk.toNatClampNeg) (gX_letter cs ad nu74 (61 + vk.toNatClampNeg) hk1.1 hk1.2) rfl 5 (by decide) (hts _ (List.mem_cons_of_mem _ mw_1_63)) (fun _ h9 => h9) rfl dX2_enterSale_131 ?_
  refine lq_i y13 ez76.symm ?_
  refine lv_dup2_11 hx hb dX2_enterSale_134 rfl rfl ?_
  refine va_iald hx hb hK hP 46 0 (gX_46 cs ad nu74) rfl (show vp_in y13 7 from vi_of (by omega) (by omega)) dX2_enterSale_135 ?_
  refine lv_topi (fun y86 ey86 => ?_)
  have hF := mi_let hF ey86
  have by86 : y86.toInt = (nu74 46 y13.toNatClampNeg).toInt := congrArg Int32.toInt ey86
  refine lv_iload hx hb dX2_enterSale_136 (lv_at hl 1 rfl) ?_
  refine lv_iadd hx hb dX2_enterSale_138 ?_
  refine lv_topi (fun t87 et87 => ?_)
  have hF := mi_let hF et87
  refine va_iast hx hb hK hP (wR_D nu74 hD) hS 46 0 (gX_46 cs ad nu74) rfl (show vp_in y13 7 from vi_of (by omega) (by omega)) dX2_enterSale_139 (fun H locs hP _ hS => ?_)
  refine wr_gen (upd (nu74 46) y13.toNatClampNeg t87) hP (rfl) (fun nu88 hn88 hP => ?_)
  have hF := mi_let hF hn88.symm
  have ok := tX_46_s ok y13.toNatClampNeg hn88
  have ez89 : vk = nu88 (77 + y3.toNatClampNeg) 1 := ez75.trans (congrFun (up_k hn88 (ne_lo (by decide) hk4.1).symm) 1).symm
  have ez90 : y13 = nu88 (61 + vk.toNatClampNeg) 5 := ez76.trans (congrFun (up_k hn88 (ne_lo (by decide) hk1.1).symm) 5).symm
  have ez91 : y13 = nu88 (77 + y3.toNatClampNeg) 2 := ez77.trans (congrFun (up_k hn88 (ne_lo (by decide) hk4.1).symm) 2).symm
  have ez92 : vx = nu88 (77 + y3.toNatClampNeg) 3 := ez78.trans (congrFun (up_k hn88 (ne_lo (by decide) hk4.1).symm) 3).symm
  have ez93 : r2 = nu88 (77 + y3.toNatClampNeg) 4 := ez79.trans (congrFun (up_k hn88 (ne_lo (by decide) hk4.1).symm) 4).symm
  have ez94 : y35 = nu88 (61 + vk.toNatClampNeg) 6 := ez80.trans (congrFun (up_k hn88 (ne_lo (by decide) hk1.1).symm) 6).symm
  have ez95 : y35 = nu88 (77 + y3.toNatClampNeg) 5 := ez81.trans (congrFun (up_k hn88 (ne_lo (by decide) hk4.1).symm) 5).symm
  have ez96 : y46 = nu88 (61 + vk.toNatClampNeg) 7 := ez82.trans (congrFun (up_k hn88 (ne_lo (by decide) hk1.1).symm) 7).symm
  have ez97 : y46 = nu88 (77 + y3.toNatClampNeg) 6 := ez83.trans (congrFun (up_k hn88 (ne_lo (by decide) hk4.1).symm) 6).symm
  have ez98 : t59 = nu88 6 1 := ez84.trans (congrFun (up_k hn88 (by decide)) 1).symm
  have kp99 : (∀ k f : Nat, Nat.testBit 486 (gpX k f) = true → nu88 k f = mu k f) := kp_c 3 hn88 (fun _ => rfl) (by decide) kp85
  refine lv_aload hx hb dX2_enterSale_140 (lv_at hl 2 rfl) ?_
  refine lv_iload_n hx hb dX2_enterSale_142 rfl (lv_at hl 6 rfl) ?_
  refine va_put (D := (dC, dI)) (ci := 3) (v := .int vx) (ty := .int) (C := RX3) (T := TX3) (N := 10) hx hb hts inG3 tyX3 tyX3_ok nmX3 hown hK hP (wR_D nu88 hD) hS (61 + vk.toNatClampNeg) (gX_letter cs ad nu88 (61 + vk.toNatClampNeg) hk1.1 hk1.2) rfl 5 (by decide) (hts _ (List.mem_cons_of_mem _ mw_1_63)) (fun _ h9 => h9) rfl (by decide +kernel) rfl rfl (Nat.le_of_ble_eq_true rfl) dX2_enterSale_143 (fun H locs hP _ hS => ?_)
  simp only [List.set_cons_succ, List.set_cons_zero] at hP
  refine wr_gen (upd (nu88 (61 + vk.toNatClampNeg)) 5 vx) hP ((hX_letter_5 cs ad _ _ (61 + vk.toNatClampNeg) hk1.1 hk1.2)) (fun nu100 hn100 hP => ?_)
  have hF := mi_let hF hn100.symm
  have ok := tX_letter_5 ok (61 + vk.toNatClampNeg) hk1.1 hk1.2 hn100 (by omega)
  have ez101 : vk = nu100 (77 + y3.toNatClampNeg) 1 := ez89.trans (congrFun (up_k hn100 (ne_gg hk4.1 (by decide) hk1.2)) 1).symm
  have ez102 : y13 = nu100 (77 + y3.toNatClampNeg) 2 := ez91.trans (congrFun (up_k hn100 (ne_gg hk4.1 (by decide) hk1.2)) 2).symm
  have ez103 : vx = nu100 (77 + y3.toNatClampNeg) 3 := ez92.trans (congrFun (up_k hn100 (ne_gg hk4.1 (by decide) hk1.2)) 3).symm
  have ez104 : r2 = nu100 (77 + y3.toNatClampNeg) 4 := ez93.trans (congrFun (up_k hn100 (ne_gg hk4.1 (by decide) hk1.2)) 4).symm
  have ez105 : y35 = nu100 (61 + vk.toNatClampNeg) 6 := ez94.trans (up_f hn100 (by decide)).symm
  have ez106 : y35 = nu100 (77 + y3.toNatClampNeg) 5 := ez95.trans (congrFun (up_k hn100 (ne_gg hk4.1 (by decide) hk1.2)) 5).symm
  have ez107 : y46 = nu100 (61 + vk.toNatClampNeg) 7 := ez96.trans (up_f hn100 (by decide)).symm
  have ez108 : y46 = nu100 (77 + y3.toNatClampNeg) 6 := ez97.trans (congrFun (up_k hn100 (ne_gg hk4.1 (by decide) hk1.2)) 6).symm
  have ez109 : t59 = nu100 6 1 := ez98.trans (congrFun (up_k hn100 (ne_lo (by decide) hk1.1)) 1).symm
  have kp110 : (∀ k f : Nat, Nat.testBit 486 (gpX k f) = true → nu100 k f = mu k f) := kp_c 3 hn100 (fun _ => gpX_letter hk1.1 hk1.2) (by decide) kp99
  have ez111 : vx = nu100 (61 + vk.toNatClampNeg) 5 := up_v hn100
  refine lv_aload hx hb dX2_enterSale_146 (lv_at hl 2 rfl) ?_
  refine lv_iload hx hb dX2_enterSale_148 (lv_at hl 1 rfl) ?_
  refine va_put (D := (dC, dI)) (ci := 3) (v := .int r2) (ty := .int) (C := RX3) (T := TX3) (N := 10) hx hb hts inG3 tyX3 tyX3_ok nmX3 hown hK hP (wR_D nu100 hD) hS (61 + vk.toNatClampNeg) (gX_letter cs ad nu100 (61 + vk.toNatClampNeg) hk1.1 hk1.2) rfl 6 (by decide) (hts _ (List.mem_cons_of_mem _ mw_1_68)) (fun _ h9 => h9) rfl (by decide +kernel) rfl rfl (Nat.le_of_ble_eq_true rfl) dX2_enterSale_150 (fun H locs hP _ hS => ?_)
  simp only [List.set_cons_succ, List.set_cons_zero] at hP
  refine wr_gen (upd (nu100 (61 + vk.toNatClampNeg)) 6 r2) hP ((hX_letter_6 cs ad _ _ (61 + vk.toNatClampNeg) hk1.1 hk1.2)) (fun nu112 hn112 hP => ?_)
  have hF := mi_let hF hn112.symm
  have ok := tX_letter_6 ok (61 + vk.toNatClampNeg) hk1.1 hk1.2 hn112
  have ez113 : vk = nu112 (77 + y3.toNatClampNeg) 1 := ez101.trans (congrFun (up_k hn112 (ne_gg hk4.1 (by decide) hk1.2)) 1).symm
  have ez114 : y13 = nu112 (77 + y3.toNatClampNeg) 2 := ez102.trans (congrFun (up_k hn112 (ne_gg hk4.1 (by decide) hk1.2)) 2).symm
  have ez115 : vx = nu112 (77 + y3.toNatClampNeg) 3 := ez103.trans (congrFun (up_k hn112 (ne_gg hk4.1 (by decide) hk1.2)) 3).symm
  have ez116 : r2 = nu112 (77 + y3.toNatClampNeg) 4 := ez104.trans (congrFun (up_k hn112 (ne_gg hk4.1 (by decide) hk1.2)) 4).symm
  have ez117 : y35 = nu112 (77 + y3.toNatClampNeg) 5 := ez106.trans (congrFun (up_k hn112 (ne_gg hk4.1 (by decide) hk1.2)) 5).symm
  have ez118 : y46 = nu112 (61 + vk.toNatClampNeg) 7 := ez107.trans (up_f hn112 (by decide)).symm
  have ez119 : y46 = nu112 (77 + y3.toNatClampNeg) 6 := ez108.trans (congrFun (up_k hn112 (ne_gg hk4.1 (by decide) hk1.2)) 6).symm
  have ez120 : t59 = nu112 6 1 := ez109.trans (congrFun (up_k hn112 (ne_lo (by decide) hk1.1)) 1).symm
  have ez121 : vx = nu112 (61 + vk.toNatClampNeg) 5 := ez111.trans (up_f hn112 (by decide)).symm
  have kp122 : (∀ k f : Nat, Nat.testBit 486 (gpX k f) = true → nu112 k f = mu k f) := kp_c 3 hn112 (fun _ => gpX_letter hk1.1 hk1.2) (by decide) kp110
  have ez123 : r2 = nu112 (61 + vk.toNatClampNeg) 6 := up_v hn112
  refine lv_aload hx hb dX2_enterSale_153 (lv_at hl 2 rfl) ?_
  refine lv_aload_n hx hb dX2_enterSale_155 rfl (lv_at hl 4 rfl) ?_
  refine va_get (D := (dC, dI)) (ci := 10) (v := .ref (ad 5)) (C := RX10) (T := TX10) (N := 8) hx hb hts inG10 hown hK hP 4 (gX_4 cs ad nu112) rfl 3 (by decide) (hts _ (List.mem_cons_of_mem _ mw_1_154)) (fun _ h9 => h9) rfl dX2_enterSale_156 ?_
  refine va_get (D := (dC, dI)) (ci := 8) (v := .int (nu112 5 3)) (C := RX8) (T := TX8) (N := 6) hx hb hts inG8 hown hK hP 5 (gX_5 cs ad nu112) rfl 3 (by decide) (hts _ (List.mem_cons_of_mem _ mw_1_121)) (fun _ h9 => h9) rfl dX2_enterSale_159 ?_
  refine lv_topi (fun y124 ey124 => ?_)
  have hF := mi_let hF ey124
  have by124 : y124.toInt = (nu112 5 3).toInt := congrArg Int32.toInt ey124
  refine va_put (D := (dC, dI)) (ci := 3) (v := .int y124) (ty := .int) (C := RX3) (T := TX3) (N := 10) hx hb hts inG3 tyX3 tyX3_ok nmX3 hown hK hP (wR_D nu112 hD) hS (61 + vk.toNatClampNeg) (gX_letter cs ad nu112 (61 + vk.toNatClampNeg) hk1.1 hk1.2) rfl 7 (by decide) (hts _ (List.mem_cons_of_mem _ mw_1_73)) (fun _ h9 => h9) rfl (by decide +kernel) rfl rfl (Nat.le_of_ble_eq_true rfl) dX2_enterSale_162 (fun H locs hP _ hS => ?_)
  simp only [List.set_cons_succ, List.set_cons_zero] at hP
  refine wr_gen (upd (nu112 (61 + vk.toNatClampNeg)) 7 y124) hP ((hX_letter_7 cs ad _ _ (61 + vk.toNatClampNeg) hk1.1 hk1.2)) (fun nu125 hn125 hP => ?_)
  have hF := mi_let hF hn125.symm
  have ok := tX_letter_7 ok (61 + vk.toNatClampNeg) hk1.1 hk1.2 hn125
  have ez126 : vk = nu125 (77 + y3.toNatClampNeg) 1 := ez113.trans (congrFun (up_k hn125 (ne_gg hk4.1 (by decide) hk1.2)) 1).symm
  have ez127 : y13 = nu125 (77 + y3.toNatClampNeg) 2 := ez114.trans (congrFun (up_k hn125 (ne_gg hk4.1 (by decide) hk1.2)) 2).symm
  have ez128 : vx = nu125 (77 + y3.toNatClampNeg) 3 := ez115.trans (congrFun (up_k hn125 (ne_gg hk4.1 (by decide) hk1.2)) 3).symm
  have ez129 : r2 = nu125 (77 + y3.toNatClampNeg) 4 := ez116.trans (congrFun (up_k hn125 (ne_gg hk4.1 (by decide) hk1.2)) 4).symm
  have ez130 : y35 = nu125 (77 + y3.toNatClampNeg) 5 := ez117.trans (congrFun (up_k hn125 (ne_gg hk4.1 (by decide) hk1.2)) 5).symm
  have ez131 : y46 = nu125 (77 + y3.toNatClampNeg) 6 := ez119.trans (congrFun (up_k hn125 (ne_gg hk4.1 (by decide) hk1.2)) 6).symm
  have ez132 : t59 = nu125 6 1 := ez120.trans (congrFun (up_k hn125 (ne_lo (by decide) hk1.1)) 1).symm
  have ez133 : vx = nu125 (61 + vk.toNatClampNeg) 5 := ez121.trans (up_f hn125 (by decide)).symm
  have ez134 : r2 = nu125 (61 + vk.toNatClampNeg) 6 := ez123.trans (up_f hn125 (by decide)).symm
  have ez135 : y124 = nu125 5 3 := ey124.trans (congrFun (up_k hn125 (ne_lo (by decide) hk1.1)) 3).symm
  have kp136 : (∀ k f : Nat, Nat.testBit 486 (gpX k f) = true → nu125 k f = mu k f) := kp_c 3 hn125 (fun _ => gpX_letter hk1.1 hk1.2) (by decide) kp122
  have ez137 : y124 = nu125 (61 + vk.toNatClampNeg) 7 := up_v hn125
  refine lv_aload hx hb dX2_enterSale_165 (lv_at hl 2 rfl) ?_
  refine lv_dup hx hb dX2_enterSale_167 rfl ?_
  refine va_get (D := (dC, dI)) (ci := 3) (v := .int (nu125 (61 + vk.toNatClampNeg) 8)) (C := RX3) (T := TX3) (N := 10) hx hb hts inG3 hown hK hP (61 + vk.toNatClampNeg) (gX_letter cs ad nu125 (61 + vk.toNatClampNeg) hk1.1 hk1.2) rfl 8 (by decide) (hts _ (List.mem_cons_of_mem _ mw_1_76)) (fun _ h9 => h9) rfl dX2_enterSale_168 ?_
  refine lv_topi (fun y138 ey138 => ?_)
  have hF := mi_let hF ey138
  have by138 : y138.toInt = (nu125 (61 + vk.toNatClampNeg) 8).toInt := congrArg Int32.toInt ey138
  refine lv_iconst (v := 1) hx hb dX2_enterSale_171 (by decide) ?_
  refine lv_iadd hx hb dX2_enterSale_172 ?_
  refine lv_topi (fun t139 et139 => ?_)
  have hF := mi_let hF et139
  refine va_put (D := (dC, dI)) (ci := 3) (v := .int t139) (ty := .int) (C := RX3) (T := TX3) (N := 10) hx hb hts inG3 tyX3 tyX3_ok nmX3 hown hK hP (wR_D nu125 hD) hS (61 + vk.toNatClampNeg) (gX_letter cs ad nu125 (61 + vk.toNatClampNeg) hk1.1 hk1.2) rfl 8 (by decide) (hts _ (List.mem_cons_of_mem _ mw_1_76)) (fun _ h9 => h9) rfl (by decide +kernel) rfl rfl (Nat.le_of_ble_eq_true rfl) dX2_enterSale_173 (fun H locs hP _ hS => ?_)
  simp only [List.set_cons_succ, List.set_cons_zero] at hP
  refine wr_gen (upd (nu125 (61 + vk.toNatClampNeg)) 8 t139) hP ((hX_letter_8 cs ad _ _ (61 + vk.toNatClampNeg) hk1.1 hk1.2)) (fun nu140 hn140 hP => ?_)
  have hF := mi_let hF hn140.symm
  have ok := tX_letter_8 ok (61 + vk.toNatClampNeg) hk1.1 hk1.2 hn140
  have ez141 : vk = nu140 (77 + y3.toNatClampNeg) 1 := ez126.trans (congrFun (up_k hn140 (ne_gg hk4.1 (by decide) hk1.2)) 1).symm
  have ez142 : y13 = nu140 (77 + y3.toNatClampNeg) 2 := ez127.trans (congrFun (up_k hn140 (ne_gg hk4.1 (by decide) hk1.2)) 2).symm
  have ez143 : vx = nu140 (77 + y3.toNatClampNeg) 3 := ez128.trans (congrFun (up_k hn140 (ne_gg hk4.1 (by decide) hk1.2)) 3).symm
  have ez144 : r2 = nu140 (77 + y3.toNatClampNeg) 4 := ez129.trans (congrFun (up_k hn140 (ne_gg hk4.1 (by decide) hk1.2)) 4).symm
  have ez145 : y35 = nu140 (77 + y3.toNatClampNeg) 5 := ez130.trans (congrFun (up_k hn140 (ne_gg hk4.1 (by decide) hk1.2)) 5).symm
  have ez146 : y46 = nu140 (77 + y3.toNatClampNeg) 6 := ez131.trans (congrFun (up_k hn140 (ne_gg hk4.1 (by decide) hk1.2)) 6).symm
  have ez147 : t59 = nu140 6 1 := ez132.trans (congrFun (up_k hn140 (ne_lo (by decide) hk1.1)) 1).symm
  have ez148 : vx = nu140 (61 + vk.toNatClampNeg) 5 := ez133.trans (up_f hn140 (by decide)).symm
  have ez149 : r2 = nu140 (61 + vk.toNatClampNeg) 6 := ez134.trans (up_f hn140 (by decide)).symm
  have ez150 : y124 = nu140 5 3 := ez135.trans (congrFun (up_k hn140 (ne_lo (by decide) hk1.1)) 3).symm
  have ez151 : y124 = nu140 (61 + vk.toNatClampNeg) 7 := ez137.trans (up_f hn140 (by decide)).symm
  have kp152 : (∀ k f : Nat, Nat.testBit 486 (gpX k f) = true → nu140 k f = mu k f) := kp_c 3 hn140 (fun _ => gpX_letter hk1.1 hk1.2) (by decide) kp136
  have ez153 : t139 = nu140 (61 + vk.toNatClampNeg) 8 := up_v hn140
  refine lv_aload hx hb dX2_enterSale_176 (lv_at hl 2 rfl) ?_
  refine lv_iload_n hx hb dX2_enterSale_178 rfl (lv_at hl 6 rfl) ?_
  refine lv_aload hx hb dX2_enterSale_179 (lv_at hl 2 rfl) ?_
  refine va_get (D := (dC, dI)) (ci := 3) (v := .int (nu140 (61 + vk.toNatClampNeg) 1)) (C := RX3) (T := TX3) (N := 10) hx hb hts inG3 hown hK hP (61 + vk.toNatClampNeg) (gX_letter cs ad nu140 (61 + vk.toNatClampNeg) hk1.1 hk1.2) rfl 1 (by decide) (hts _ (List.mem_cons_of_mem _ mw_1_54)) (fun _ h9 => h9) rfl dX2_enterSale_181 ?_
  refine lv_topi (fun y154 ey154 => ?_)
  have hF := mi_let hF ey154
  have by154 : y154.toInt = (nu140 (61 + vk.toNatClampNeg) 1).toInt := congrArg Int32.toInt ey154
  have gy154 : 0 ≤ y154.toInt ∧ y154.toInt ≤ 6 := by rw [ey154]; exact rX_letter_1 ok (61 + vk.toNatClampNeg) hk1.1 hk1.2
  refine lv_icmp_ne (tgt := 191) hx hb dX2_enterSale_184 (by decide) (fun c_155 => ?_) (fun c_155 => ?_)
  · have hF := (if_neg c_155).symm.trans hF
    have c_155 : ¬ vx.toInt = y154.toInt := il_ne c_155
    refine lv_iconst (v := 0) hx hb dX2_enterSale_191 (by decide) ?_
    refine va_put (D := (dC, dI)) (ci := 3) (v := .int 0) (ty := .boolean) (C := RX3) (T := TX3) (N := 10) hx hb hts inG3 tyX3 tyX3_ok nmX3 hown hK hP (wR_D nu140 hD) hS (61 + vk.toNatClampNeg) (gX_letter cs ad nu140 (61 + vk.toNatClampNeg) hk1.1 hk1.2) rfl 9 (by decide) (hts _ (List.mem_cons_of_mem _ mw_1_78)) (fun _ h9 => h9) rfl (by decide +kernel) (by first | rfl | decide) (by first | rfl | decide) (Nat.le_of_ble_eq_true rfl) dX2_enterSale_192 (fun H locs hP _ hS => ?_)
    simp only [List.set_cons_succ, List.set_cons_zero] at hP
    refine wr_gen (upd (nu140 (61 + vk.toNatClampNeg)) 9 0) hP ((hX_letter_9 cs ad _ _ (61 + vk.toNatClampNeg) hk1.1 hk1.2)) (fun nu156 hn156 hP => ?_)
    have hF := mi_let hF hn156.symm
    have ok := tX_letter_9 ok (61 + vk.toNatClampNeg) hk1.1 hk1.2 hn156 (by have h9 : (0 : Int32).toInt = 0 := rfl; exact ⟨by omega, by omega⟩)
    have ez157 : vk = nu156 (77 + y3.toNatClampNeg) 1 := ez141.trans (congrFun (up_k hn156 (ne_gg hk4.1 (by decide) hk1.2)) 1).symm
    have ez158 : y13 = nu156 (77 + y3.toNatClampNeg) 2 := ez142.trans (congrFun (up_k hn156 (ne_gg hk4.1 (by decide) hk1.2)) 2).symm
    have ez159 : vx = nu156 (77 + y3.toNatClampNeg) 3 := ez143.trans (congrFun (up_k hn156 (ne_gg hk4.1 (by decide) hk1.2)) 3).symm
    have ez160 : r2 = nu156 (77 + y3.toNatClampNeg) 4 := ez144.trans (congrFun (up_k hn156 (ne_gg hk4.1 (by decide) hk1.2)) 4).symm
    have ez161 : y35 = nu156 (77 + y3.toNatClampNeg) 5 := ez145.trans (congrFun (up_k hn156 (ne_gg hk4.1 (by decide) hk1.2)) 5).symm
    have ez162 : y46 = nu156 (77 + y3.toNatClampNeg) 6 := ez146.trans (congrFun (up_k hn156 (ne_gg hk4.1 (by decide) hk1.2)) 6).symm
    have ez163 : t59 = nu156 6 1 := ez147.trans (congrFun (up_k hn156 (ne_lo (by decide) hk1.1)) 1).symm
    have ez164 : vx = nu156 (61 + vk.toNatClampNeg) 5 := ez148.trans (up_f hn156 (by decide)).symm
    have ez165 : r2 = nu156 (61 + vk.toNatClampNeg) 6 := ez149.trans (up_f hn156 (by decide)).symm
    have ez166 : y124 = nu156 5 3 := ez150.trans (congrFun (up_k hn156 (ne_lo (by decide) hk1.1)) 3).symm
    have ez167 : y124 = nu156 (61 + vk.toNatClampNeg) 7 := ez151.trans (up_f hn156 (by decide)).symm
    have ez168 : t139 = nu156 (61 + vk.toNatClampNeg) 8 := ez153.trans (up_f hn156 (by decide)).symm
    have ez169 : y154 = nu156 (61 + vk.toNatClampNeg) 1 := ey154.trans (up_f hn156 (by decide)).symm
    have kp170 : (∀ k f : Nat, Nat.testBit 486 (gpX k f) = true → nu156 k f = mu k f) := kp_c 3 hn156 (fun _ => gpX_letter hk1.1 hk1.2) (by decide) kp152
    have ez171 : 0 = nu156 (61 + vk.toNatClampNeg) 9 := up_v hn156
    refine lv_iload hx hb dX2_enterSale_195 (lv_at hl 1 rfl) ?_
    exact W.iret (v := r2) hx hb hr (fun t ht hW => ⟨⟨r2, nu156, rfl, ⟨hF.trans hfz.symm, ok, trivial, kp170⟩, by first | (subst ht; exact hP) | (rw [ht]; exact hP) | (show va_P (dC, dI) vwCl (wR 157 ad (EX cs ad) nu156) t.heap; rw [ht]; exact hP)⟩, hS.F ht⟩) hS.2.2 dX2_enterSale_197
  · have hF := (if_pos c_155).symm.trans hF
    have c_155 : vx.toInt = y154.toInt := il_eq c_155
    refine lv_iconst (v := 1) hx hb dX2_enterSale_187 (by decide) ?_
    refine lv_goto (tgt := 192) hx hb dX2_enterSale_188 (by decide) ?_
    refine va_put (D := (dC, dI)) (ci := 3) (v := .int 1) (ty := .boolean) (C := RX3) (T := TX3) (N := 10) hx hb hts inG3 tyX3 tyX3_ok nmX3 hown hK hP (wR_D nu140 hD) hS (61 + vk.toNatClampNeg) (gX_letter cs ad nu140 (61 + vk.toNatClampNeg) hk1.1 hk1.2) rfl 9 (by decide) (hts _ (List.mem_cons_of_mem _ mw_1_78)) (fun _ h9 => h9) rfl (by decide +kernel) (by first | rfl | decide) (by first | rfl | decide) (Nat.le_of_ble_eq_true rfl) dX2_enterSale_192 (fun H locs hP _ hS => ?_)
    simp only [List.set_cons_succ, List.set_cons_zero] at hP
    refine wr_gen (upd (nu140 (61 + vk.toNatClampNeg)) 9 1) hP ((hX_letter_9 cs ad _ _ (61 + vk.toNatClampNeg) hk1.1 hk1.2)) (fun nu172 hn172 hP => ?_)
    have hF := mi_let hF hn172.symm
    have ok := tX_letter_9 ok (61 + vk.toNatClampNeg) hk1.1 hk1.2 hn172 (by have h9 : (1 : Int32).toInt = 1 := rfl; exact ⟨by omega, by omega⟩)
    have ez173 : vk = nu172 (77 + y3.toNatClampNeg) 1 := ez141.trans (congrFun (up_k hn172 (ne_gg hk4.1 (by decide) hk1.2)) 1).symm
    have ez174 : y13 = nu172 (77 + y3.toNatClampNeg) 2 := ez142.trans (congrFun (up_k hn172 (ne_gg hk4.1 (by decide) hk1.2)) 2).symm
    have ez175 : vx = nu172 (77 + y3.toNatClampNeg) 3 := ez143.trans (congrFun (up_k hn172 (ne_gg hk4.1 (by decide) hk1.2)) 3).symm
    have ez176 : r2 = nu172 (77 + y3.toNatClampNeg) 4 := ez144.trans (congrFun (up_k hn172 (ne_gg hk4.1 (by decide) hk1.2)) 4).symm
    have ez177 : y35 = nu172 (77 + y3.toNatClampNeg) 5 := ez145.trans (congrFun (up_k hn172 (ne_gg hk4.1 (by decide) hk1.2)) 5).symm
    have ez178 : y46 = nu172 (77 + y3.toNatClampNeg) 6 := ez146.trans (congrFun (up_k hn172 (ne_gg hk4.1 (by decide) hk1.2)) 6).symm
    have ez179 : t59 = nu172 6 1 := ez147.trans (congrFun (up_k hn172 (ne_lo (by decide) hk1.1)) 1).symm
    have ez180 : vx = nu172 (61 + vk.toNatClampNeg) 5 := ez148.trans (up_f hn172 (by decide)).symm
    have ez181 : r2 = nu172 (61 + vk.toNatClampNeg) 6 := ez149.trans (up_f hn172 (by decide)).symm
    have ez182 : y124 = nu172 5 3 := ez150.trans (congrFun (up_k hn172 (ne_lo (by decide) hk1.1)) 3).symm
    have ez183 : y124 = nu172 (61 + vk.toNatClampNeg) 7 := ez151.trans (up_f hn172 (by decide)).symm
    have ez184 : t139 = nu172 (61 + vk.toNatClampNeg) 8 := ez153.trans (up_f hn172 (by decide)).symm
    have ez185 : y154 = nu172 (61 + vk.toNatClampNeg) 1 := ey154.trans (up_f hn172 (by decide)).symm
    have kp186 : (∀ k f : Nat, Nat.testBit 486 (gpX k f) = true → nu172 k f = mu k f) := kp_c 3 hn172 (fun _ => gpX_letter hk1.1 hk1.2) (by decide) kp152
    have ez187 : 1 = nu172 (61 + vk.toNatClampNeg) 9 := up_v hn172
    refine lv_iload hx hb dX2_enterSale_195 (lv_at hl 1 rfl) ?_
    exact W.iret (v := r2) hx hb hr (fun t ht hW => ⟨⟨r2, nu172, rfl, ⟨hF.trans hfz.symm, ok, trivial, kp186⟩, by first | (subst ht; exact hP) | (rw [ht]; exact hP) | (show va_P (dC, dI) vwCl (wR 157 ad (EX cs ad) nu172) t.heap; rw [ht]; exact hP)⟩, hS.F ht⟩) hS.2.2 dX2_enterSale_197
theorem rX_sale_1 {mu : Nat → Nat → Int32} (ok : okR loX hiX mu) (k : Nat) (h1 : 77 ≤ k) (h2 : k < 117) : 0 ≤ (mu k 1).toInt ∧ (mu k 1).toInt ≤ 3 := by
  have h := ok k 1
  unfold loX hiX at h
  rw [clX_sale k h1 h2] at h
  exact h
theorem cX_spurses_46 (k : Nat) (h1 : 117 ≤ k) (h2 : k < 157) {a b : Nat} : ∀ f, loX 46 f ≤ loX k (a + (f - b)) ∧ hiX k (a + (f - b)) ≤ hiX 46 f := fun f => by
  unfold loX hiX; rw [clX_spurses k h1 h2]
  exact (show (-2147483648 : Int) ≤ -2147483648 ∧ (2147483647 : Int) ≤ 2147483647 by decide)
theorem lb_X2_undoLast_0 : dl_ck (cX2_undoLast.data.toList.drop 0) [42, 180, 0, 18, 157, 0, 4, 177, 42, 89, 180, 0, 18, 4, 100, 181, 0, 18, 42, 180, 0, 11, 42, 180, 0, 18, 50, 77, 43, 180, 0, 22] = true := by decide +kernel
theorem lb_X2_undoLast_1 : dl_ck (cX2_undoLast.data.toList.drop 32) [180, 0, 28, 44, 180, 0, 51, 50, 78, 45, 44, 180, 0, 59, 181, 0, 54, 45, 44, 180, 0, 71, 181, 0, 68, 45, 44, 180, 0, 77, 181, 0] = true := by decide +kernel
theorem lb_X2_undoLast_2 : dl_ck (cX2_undoLast.data.toList.drop 64) [74, 45, 89, 180, 0, 83, 4, 100, 181, 0, 83, 45, 3, 181, 0, 89, 44, 180, 0, 42, 3, 43, 180, 0, 22, 180, 0, 38, 3, 16, 7, 184] = true := by decide +kernel
theorem lb_X2_undoLast_3 : dl_ck (cX2_undoLast.data.toList.drop 96) [0, 45, 177] = true := by decide +kernel
theorem dX2_undoLast_0 : decode cX2_undoLast 0 = .ok (.aload_n 0, 1) := dx_42 (dl_at 0 0 lb_X2_undoLast_0 rfl)
theorem dX2_undoLast_1 : decode cX2_undoLast 1 = .ok (.getfield 18, 3) := dx_180 (a := 0) (b := 18) (dl_at 0 1 lb_X2_undoLast_0 rfl) (dl_at 0 2 lb_X2_undoLast_0 rfl) (dl_at 0 3 lb_X2_undoLast_0 rfl) rfl
theorem dX2_undoLast_4 : decode cX2_undoLast 4 = .ok (.ifCond .gt 4, 3) := dx_157 (a := 0) (b := 4) (dl_at 0 4 lb_X2_undoLast_0 rfl) (dl_at 0 5 lb_X2_undoLast_0 rfl) (dl_at 0 6 lb_X2_undoLast_0 rfl) sg16_4
theorem dX2_undoLast_8 : decode cX2_undoLast 8 = .ok (.aload_n 0, 1) := dx_42 (dl_at 0 8 lb_X2_undoLast_0 rfl)
theorem dX2_undoLast_9 : decode cX2_undoLast 9 = .ok (.dup, 1) := dx_89 (dl_at 0 9 lb_X2_undoLast_0 rfl)
theorem dX2_undoLast_10 : decode cX2_undoLast 10 = .ok (.getfield 18, 3) := dx_180 (a := 0) (b := 18) (dl_at 0 10 lb_X2_undoLast_0 rfl) (dl_at 0 11 lb_X2_undoLast_0 rfl) (dl_at 0 12 lb_X2_undoLast_0 rfl) rfl
theorem dX2_undoLast_13 : decode cX2_undoLast 13 = .ok (.iconst 1, 1) := dx_4 (dl_at 0 13 lb_X2_undoLast_0 rfl)
theorem dX2_undoLast_14 : decode cX2_undoLast 14 = .ok (.isub, 1) := dx_100 (dl_at 0 14 lb_X2_undoLast_0 rfl)
theorem dX2_undoLast_15 : decode cX2_undoLast 15 = .ok (.putfield 18, 3) := dx_181 (a := 0) (b := 18) (dl_at 0 15 lb_X2_undoLast_0 rfl) (dl_at 0 16 lb_X2_undoLast_0 rfl) (dl_at 0 17 lb_X2_undoLast_0 rfl) rfl
theorem dX2_undoLast_18 : decode cX2_undoLast 18 = .ok (.aload_n 0, 1) := dx_42 (dl_at 0 18 lb_X2_undoLast_0 rfl)
theorem dX2_undoLast_19 : decode cX2_undoLast 19 = .ok (.getfield 11, 3) := dx_180 (a := 0) (b := 11) (dl_at 0 19 lb_X2_undoLast_0 rfl) (dl_at 0 20 lb_X2_undoLast_0 rfl) (dl_at 0 21 lb_X2_undoLast_0 rfl) rfl
theorem dX2_undoLast_22 : decode cX2_undoLast 22 = .ok (.aload_n 0, 1) := dx_42 (dl_at 0 22 lb_X2_undoLast_0 rfl)
theorem dX2_undoLast_23 : decode cX2_undoLast 23 = .ok (.getfield 18, 3) := dx_180 (a := 0) (b := 18) (dl_at 0 23 lb_X2_undoLast_0 rfl) (dl_at 0 24 lb_X2_undoLast_0 rfl) (dl_at 0 25 lb_X2_undoLast_0 rfl) rfl
theorem dX2_undoLast_26 : decode cX2_undoLast 26 = .ok (.aaload, 1) := dx_50 (dl_at 0 26 lb_X2_undoLast_0 rfl)
theorem dX2_undoLast_27 : decode cX2_undoLast 27 = .ok (.astore_n 2, 1) := dx_77 (dl_at 0 27 lb_X2_undoLast_0 rfl)
theorem dX2_undoLast_28 : decode cX2_undoLast 28 = .ok (.aload_n 1, 1) := dx_43 (dl_at 0 28 lb_X2_undoLast_0 rfl)
theorem dX2_undoLast_29 : decode cX2_undoLast 29 = .ok (.getfield 22, 3) := dx_180 (a := 0) (b := 22) (dl_at 0 29 lb_X2_undoLast_0 rfl) (dl_at 0 30 lb_X2_undoLast_0 rfl) (dl_at 0 31 lb_X2_undoLast_0 rfl) rfl
theorem dX2_undoLast_32 : decode cX2_undoLast 32 = .ok (.getfield 28, 3) := dx_180 (a := 0) (b := 28) (dl_at 32 0 lb_X2_undoLast_1 rfl) (dl_at 32 1 lb_X2_undoLast_1 rfl) (dl_at 32 2 lb_X2_undoLast_1 rfl) rfl
theorem dX2_undoLast_35 : decode cX2_undoLast 35 = .ok (.aload_n 2, 1) := dx_44 (dl_at 32 3 lb_X2_undoLast_1 rfl)
theorem dX2_undoLast_36 : decode cX2_undoLast 36 = .ok (.getfield 51, 3) := dx_180 (a := 0) (b := 51) (dl_at 32 4 lb_X2_undoLast_1 rfl) (dl_at 32 5 lb_X2_undoLast_1 rfl) (dl_at 32 6 lb_X2_undoLast_1 rfl) rfl
theorem dX2_undoLast_39 : decode cX2_undoLast 39 = .ok (.aaload, 1) := dx_50 (dl_at 32 7 lb_X2_undoLast_1 rfl)
theorem dX2_undoLast_40 : decode cX2_undoLast 40 = .ok (.astore_n 3, 1) := dx_78 (dl_at 32 8 lb_X2_undoLast_1 rfl)
theorem dX2_undoLast_41 : decode cX2_undoLast 41 = .ok (.aload_n 3, 1) := dx_45 (dl_at 32 9 lb_X2_undoLast_1 rfl)
theorem dX2_undoLast_42 : decode cX2_undoLast 42 = .ok (.aload_n 2, 1) := dx_44 (dl_at 32 10 lb_X2_undoLast_1 rfl)
theorem dX2_undoLast_43 : decode cX2_undoLast 43 = .ok (.getfield 59, 3) := dx_180 (a := 0) (b := 59) (dl_at 32 11 lb_X2_undoLast_1 rfl) (dl_at 32 12 lb_X2_undoLast_1 rfl) (dl_at 32 13 lb_X2_undoLast_1 rfl) rfl
theorem dX2_undoLast_46 : decode cX2_undoLast 46 = .ok (.putfield 54, 3) := dx_181 (a := 0) (b := 54) (dl_at 32 14 lb_X2_undoLast_1 rfl) (dl_at 32 15 lb_X2_undoLast_1 rfl) (dl_at 32 16 lb_X2_undoLast_1 rfl) rfl
theorem dX2_undoLast_49 : decode cX2_undoLast 49 = .ok (.aload_n 3, 1) := dx_45 (dl_at 32 17 lb_X2_undoLast_1 rfl)
theorem dX2_undoLast_50 : decode cX2_undoLast 50 = .ok (.aload_n 2, 1) := dx_44 (dl_at 32 18 lb_X2_undoLast_1 rfl)
theorem dX2_undoLast_51 : decode cX2_undoLast 51 = .ok (.getfield 71, 3) := dx_180 (a := 0) (b := 71) (dl_at 32 19 lb_X2_undoLast_1 rfl) (dl_at 32 20 lb_X2_undoLast_1 rfl) (dl_at 32 21 lb_X2_undoLast_1 rfl) rfl
theorem dX2_undoLast_54 : decode cX2_undoLast 54 = .ok (.putfield 68, 3) := dx_181 (a := 0) (b := 68) (dl_at 32 22 lb_X2_undoLast_1 rfl) (dl_at 32 23 lb_X2_undoLast_1 rfl) (dl_at 32 24 lb_X2_undoLast_1 rfl) rfl
theorem dX2_undoLast_57 : decode cX2_undoLast 57 = .ok (.aload_n 3, 1) := dx_45 (dl_at 32 25 lb_X2_undoLast_1 rfl)
theorem dX2_undoLast_58 : decode cX2_undoLast 58 = .ok (.aload_n 2, 1) := dx_44 (dl_at 32 26 lb_X2_undoLast_1 rfl)
theorem dX2_undoLast_59 : decode cX2_undoLast 59 = .ok (.getfield 77, 3) := dx_180 (a := 0) (b := 77) (dl_at 32 27 lb_X2_undoLast_1 rfl) (dl_at 32 28 lb_X2_undoLast_1 rfl) (dl_at 32 29 lb_X2_undoLast_1 rfl) rfl
theorem dX2_undoLast_62 : decode cX2_undoLast 62 = .ok (.putfield 74, 3) := dx_181 (a := 0) (b := 74) (dl_at 32 30 lb_X2_undoLast_1 rfl) (dl_at 32 31 lb_X2_undoLast_1 rfl) (dl_at 64 0 lb_X2_undoLast_2 rfl) rfl
theorem dX2_undoLast_65 : decode cX2_undoLast 65 = .ok (.aload_n 3, 1) := dx_45 (dl_at 64 1 lb_X2_undoLast_2 rfl)
theorem dX2_undoLast_66 : decode cX2_undoLast 66 = .ok (.dup, 1) := dx_89 (dl_at 64 2 lb_X2_undoLast_2 rfl)
theorem dX2_undoLast_67 : decode cX2_undoLast 67 = .ok (.getfield 83, 3) := dx_180 (a := 0) (b := 83) (dl_at 64 3 lb_X2_undoLast_2 rfl) (dl_at 64 4 lb_X2_undoLast_2 rfl) (dl_at 64 5 lb_X2_undoLast_2 rfl) rfl
theorem dX2_undoLast_70 : decode cX2_undoLast 70 = .ok (.iconst 1, 1) := dx_4 (dl_at 64 6 lb_X2_undoLast_2 rfl)
theorem dX2_undoLast_71 : decode cX2_undoLast 71 = .ok (.isub, 1) := dx_100 (dl_at 64 7 lb_X2_undoLast_2 rfl)
theorem dX2_undoLast_72 : decode cX2_undoLast 72 = .ok (.putfield 83, 3) := dx_181 (a := 0) (b := 83) (dl_at 64 8 lb_X2_undoLast_2 rfl) (dl_at 64 9 lb_X2_undoLast_2 rfl) (dl_at 64 10 lb_X2_undoLast_2 rfl) rfl
theorem dX2_undoLast_75 : decode cX2_undoLast 75 = .ok (.aload_n 3, 1) := dx_45 (dl_at 64 11 lb_X2_undoLast_2 rfl)
theorem dX2_undoLast_76 : decode cX2_undoLast 76 = .ok (.iconst 0, 1) := dx_3 (dl_at 64 12 lb_X2_undoLast_2 rfl)
theorem dX2_undoLast_77 : decode cX2_undoLast 77 = .ok (.putfield 89, 3) := dx_181 (a := 0) (b := 89) (dl_at 64 13 lb_X2_undoLast_2 rfl) (dl_at 64 14 lb_X2_undoLast_2 rfl) (dl_at 64 15 lb_X2_undoLast_2 rfl) rfl
theorem dX2_undoLast_80 : decode cX2_undoLast 80 = .ok (.aload_n 2, 1) := dx_44 (dl_at 64 16 lb_X2_undoLast_2 rfl)
theorem dX2_undoLast_81 : decode cX2_undoLast 81 = .ok (.getfield 42, 3) := dx_180 (a := 0) (b := 42) (dl_at 64 17 lb_X2_undoLast_2 rfl) (dl_at 64 18 lb_X2_undoLast_2 rfl) (dl_at 64 19 lb_X2_undoLast_2 rfl) rfl
theorem dX2_undoLast_84 : decode cX2_undoLast 84 = .ok (.iconst 0, 1) := dx_3 (dl_at 64 20 lb_X2_undoLast_2 rfl)
theorem dX2_undoLast_85 : decode cX2_undoLast 85 = .ok (.aload_n 1, 1) := dx_43 (dl_at 64 21 lb_X2_undoLast_2 rfl)
theorem dX2_undoLast_86 : decode cX2_undoLast 86 = .ok (.getfield 22, 3) := dx_180 (a := 0) (b := 22) (dl_at 64 22 lb_X2_undoLast_2 rfl) (dl_at 64 23 lb_X2_undoLast_2 rfl) (dl_at 64 24 lb_X2_undoLast_2 rfl) rfl
theorem dX2_undoLast_89 : decode cX2_undoLast 89 = .ok (.getfield 38, 3) := dx_180 (a := 0) (b := 38) (dl_at 64 25 lb_X2_undoLast_2 rfl) (dl_at 64 26 lb_X2_undoLast_2 rfl) (dl_at 64 27 lb_X2_undoLast_2 rfl) rfl
theorem dX2_undoLast_92 : decode cX2_undoLast 92 = .ok (.iconst 0, 1) := dx_3 (dl_at 64 28 lb_X2_undoLast_2 rfl)
theorem dX2_undoLast_93 : decode cX2_undoLast 93 = .ok (.bipush 7, 2) := dx_16 (dl_at 64 29 lb_X2_undoLast_2 rfl) (dl_at 64 30 lb_X2_undoLast_2 rfl) sg8_7
theorem dX2_undoLast_95 : decode cX2_undoLast 95 = .ok (.invokestatic 45, 3) := dx_184 (a := 0) (b := 45) (dl_at 64 31 lb_X2_undoLast_2 rfl) (dl_at 96 0 lb_X2_undoLast_3 rfl) (dl_at 96 1 lb_X2_undoLast_3 rfl) rfl
theorem dX2_undoLast_98 : decode cX2_undoLast 98 = .ok (.return_, 1) := dx_177 (dl_at 96 2 lb_X2_undoLast_3 rfl)
theorem dX2_undoLast_7 : decode cX2_undoLast 7 = .ok (.return_, 1) := dx_177 (dl_at 0 7 lb_X2_undoLast_0 rfl)
def F_sx_undoLast (mu : Nat → Nat → Int32) : Nat → Nat → Int32 :=
  LETV (mu 6 1 : Int32) fun y1 =>
  if y1 > (0 : Int32) then (
    LETV (y1 - 1 : Int32) fun t3 =>
    LETV (va_up mu 6 (upd (mu 6) 1 t3) : Nat → Nat → Int32) fun nu4 =>
    LETV (nu4 (77 + t3.toNatClampNeg) 1 : Int32) fun y8 =>
    LETV (nu4 (77 + t3.toNatClampNeg) 2 : Int32) fun y10 =>
    LETV (va_up nu4 (61 + y8.toNatClampNeg) (upd (nu4 (61 + y8.toNatClampNeg)) 5 y10) : Nat → Nat → Int32) fun nu11 =>
    LETV (nu11 (77 + t3.toNatClampNeg) 5 : Int32) fun y17 =>
    LETV (va_up nu11 (61 + y8.toNatClampNeg) (upd (nu11 (61 + y8.toNatClampNeg)) 6 y17) : Nat → Nat → Int32) fun nu18 =>
    LETV (nu18 (77 + t3.toNatClampNeg) 6 : Int32) fun y26 =>
    LETV (va_up nu18 (61 + y8.toNatClampNeg) (upd (nu18 (61 + y8.toNatClampNeg)) 7 y26) : Nat → Nat → Int32) fun nu27 =>
    LETV (nu27 (61 + y8.toNatClampNeg) 8 : Int32) fun y37 =>
    LETV (y37 - 1 : Int32) fun t38 =>
    LETV (va_up nu27 (61 + y8.toNatClampNeg) (upd (nu27 (61 + y8.toNatClampNeg)) 8 t38) : Nat → Nat → Int32) fun nu39 =>
    LETV (va_up nu39 (61 + y8.toNatClampNeg) (upd (nu39 (61 + y8.toNatClampNeg)) 9 0) : Nat → Nat → Int32) fun nu50 =>
    LETV (va_up nu50 46 (va_cpy (nu50 ((77 + t3.toNatClampNeg) + 40)) (nu50 46) (0 : Int32).toNatClampNeg (0 : Int32).toNatClampNeg (7 : Int32).toNatClampNeg) : Nat → Nat → Int32) fun nu63 =>
    nu63
  ) else (
    mu
  )
set_option maxHeartbeats 4000000 in
set_option maxRecDepth 100000 in
/-- sx_undoLast -/
theorem sx_undoLast (l : Launch) (dC : Nat → ClassId) (dI : Nat → Nat → Nat) (cs : Nat → ClassId) (ad : Nat → Nat) (mu : Nat → Nat → Int32) (ok : okR loX hiX mu) (H : Heap) (hP : va_P (dC, dI) vwCl (wR 157 ad (EX cs ad) mu) H) (hD0 : va_D (fun _ => True) (wR 157 ad (EX cs ad) mu)) : Met l yX2_undoLast (wU yX2_undoLast cX2_undoLast 4 none) ({ frames := 1, cells := 0, slots := 0, locals := 60 }) (va_Pc [.ref (ad 6), .ref (ad 4)] (sz_P (dC, dI) vwCl (tyW cs) H)) (va_Qv (fun (xi : Nat → Nat → Int32) => xi = F_sx_undoLast mu ∧ okR loX hiX xi ∧ (True) ∧ (∀ k f : Nat, Nat.testBit 486 (gpX k f) = true → xi k f = mu k f)) (fun xi t => va_P (dC, dI) vwCl (wR 157 ad (EX cs ad) xi) t.heap) (va_A (wR 157 ad (EX cs ad) mu) H.size)) 0 0 (va_A (wR 157 ad (EX cs ad) mu) H.size) := by
  refine Met.ofW (cc := cX2_undoLast) (maxL := 4) (ret := none) (by decide) rfl ?_
  intro p e s m args below meth c s₁ B hml hv
  obtain ⟨rfl, hh, hK, hz⟩ := hv
  have hx := B.exec
  have hb := B.bytes
  have hr := B.returns
  have hts := atoms_spec (ws := (wU yX2_undoLast cX2_undoLast 4 none)) B.pre
  have hown : s.vm.findClass RX2 = some m.cls := findClass_of_methodNamed B.named
  have hlocks := B.notSynchronized
  subst hh
  have hD := hD0.self (sz := s.heap.size)
  have hA : ∀ q : Nat, s.heap.size ≤ q → (va_A (wR 157 ad (EX cs ad) mu) s.heap.size) q := fun q h => Or.inr h
  have hS : va_S (va_A (wR 157 ad (EX cs ad) mu) s.heap.size) s.heap s.heap [] := va_S.rf
  have hl := lv_entry ([.ref (ad 6), .ref (ad 4)]) (n := 4) (Nat.le_of_ble_eq_true rfl)
  rw [lg_entry_eq]
  generalize (lg_sl ([.ref (ad 6), .ref (ad 4)]) ++ List.replicate (4 - (lg_sl ([.ref (ad 6), .ref (ad 4)])).length) Slot.unset).toArray = ls at hl ⊢
  have hl : lv_has ls 4 [(0, .ref (ad 6)), (1, .ref (ad 4))] := hl
  obtain ⟨fz, hfz⟩ : ∃ z, F_sx_undoLast mu = z := ⟨_, rfl⟩
  have hF := hfz
  unfold F_sx_undoLast at hF
  refine lv_aload_n hx hb dX2_undoLast_0 rfl (lv_at hl 0 rfl) ?_
  refine va_get (D := (dC, dI)) (ci := 2) (v := .int (mu 6 1)) (C := RX2) (T := TX2) (N := 2) hx hb hts inG2 hown hK hP 6 (gX_6 cs ad mu) rfl 1 (by decide) (hts _ (List.mem_cons_of_mem _ mw_2_7)) (fun _ h9 => h9) rfl dX2_undoLast_1 ?_
  refine lv_topi (fun y1 ey1 => ?_)
  have hF := mi_let hF ey1
  have by1 : y1.toInt = (mu 6 1).toInt := congrArg Int32.toInt ey1
  have gy1 : 0 ≤ y1.toInt ∧ y1.toInt ≤ 40 := by rw [ey1]; exact rX_6_1 ok
  refine lv_if_gt (tgt := 8) hx hb dX2_undoLast_4 (by decide) (fun c_2 => ?_) (fun c_2 => ?_)
  · have hF := (if_pos c_2).symm.trans hF
    have c_2 : 0 < y1.toInt := il_lt c_2
    refine lv_aload_n hx hb dX2_undoLast_8 rfl (lv_at hl 0 rfl) ?_
    refine lv_dup hx hb dX2_undoLast_9 rfl ?_
    refine va_get (D := (dC, dI)) (ci := 2) (v := .int (mu 6 1)) (C := RX2) (T := TX2) (N := 2) hx hb hts inG2 hown hK hP 6 (gX_6 cs ad mu) rfl 1 (by decide) (hts _ (List.mem_cons_of_mem _ mw_2_7)) (fun _ h9 => h9) rfl dX2_undoLast_10 ?_
    refine lq_i y1 ey1.symm ?_
    refine lv_iconst (v := 1) hx hb dX2_undoLast_13 (by decide) ?_
    refine lv_isub hx hb dX2_undoLast_14 ?_
    refine lv_topi (fun t3 et3 => ?_)
    have hF := mi_let hF et3
    have at3 : t3.toInt = y1.toInt - 1 := by rw [et3]; exact tI_sub (rfl : y1.toInt = _) (rfl : (1 : Int32).toInt = 1) (by omega) (by omega)
    refine va_put (D := (dC, dI)) (ci := 2) (v := .int t3) (ty := .int) (C := RX2) (T := TX2) (N := 2) hx hb hts inG2 tyX2 tyX2_ok nmX2 hown hK hP (wR_D mu hD) hS 6 (gX_6 cs ad mu) rfl 1 (by decide) (hts _ (List.mem_cons_of_mem _ mw_2_7)) (fun _ h9 => h9) rfl (by decide +kernel) rfl rfl (Nat.le_of_ble_eq_true rfl) dX2_undoLast_15 (fun H locs hP _ hS => ?_)
    simp only [List.set_cons_succ, List.set_cons_zero] at hP
    refine wr_gen (upd (mu 6) 1 t3) hP ((hX_6_1 cs ad _ _)) (fun nu4 hn4 hP => ?_)
    have hF := mi_let hF hn4.symm
    have ok := tX_6_1 ok hn4 (by omega)
    have kp5 : (∀ k f : Nat, Nat.testBit 486 (gpX k f) = true → nu4 k f = mu k f) := kp_c 4 hn4 (fun _ => rfl) (by decide) (fun _ _ _ => rfl)
    have ez6 : t3 = nu4 6 1 := up_v hn4
    refine lv_aload_n hx hb dX2_undoLast_18 rfl (lv_at hl 0 rfl) ?_
    refine va_get (D := (dC, dI)) (ci := 2) (v := .ref (ad 39)) (C := RX2) (T := TX2) (N := 2) hx hb hts inG2 hown hK hP 6 (gX_6 cs ad nu4) rfl 0 (by decide) (hts _ (List.mem_cons_of_mem _ mw_2_6)) (fun _ h9 => h9) rfl dX2_undoLast_19 ?_
    refine lv_aload_n hx hb dX2_undoLast_22 rfl (lv_at hl 0 rfl) ?_
    refine va_get (D := (dC, dI)) (ci := 2) (v := .int (nu4 6 1)) (C := RX2) (T := TX2) (N := 2) hx hb hts inG2 hown hK hP 6 (gX_6 cs ad nu4) rfl 1 (by decide) (hts _ (List.mem_cons_of_mem _ mw_2_7)) (fun _ h9 => h9) rfl dX2_undoLast_23 ?_
    refine lq_i t3 ez6.symm ?_
    have hx7 : 0 ≤ t3.toInt ∧ t3.toInt < ((40 : Nat) : Int) := ⟨by omega, by omega⟩
    refine va_aldq hx hb hK hP 39 6 (gX_39 cs ad nu4) rfl (show vp_in t3 40 from vi_of hx7.1 hx7.2) dX2_undoLast_26 ?_
    have hk7 : 77 ≤ (77 + t3.toNatClampNeg) ∧ (77 + t3.toNatClampNeg) < 117 := ix_of hx7
    refine lq_v (.ref (ad (77 + t3.toNatClampNeg))) rfl ?_
    refine lv_astore_n (lv' := [(2, .ref (ad (77 + t3.toNatClampNeg))), (0, .ref (ad 6)), (1, .ref (ad 4))]) hx hb dX2_undoLast_27 rfl hl (by decide) rfl (fun ls hl => ?_)
    refine lv_aload_n hx hb dX2_undoLast_28 rfl (lv_at hl 2 rfl) ?_
    refine va_get (D := (dC, dI)) (ci := 10) (v := .ref (ad 5)) (C := RX10) (T := TX10) (N := 8) hx hb hts inG10 hown hK hP 4 (gX_4 cs ad nu4) rfl 3 (by decide) (hts _ (List.mem_cons_of_mem _ mw_1_154)) (fun _ h9 => h9) rfl dX2_undoLast_29 ?_
    refine va_get (D := (dC, dI)) (ci := 8) (v := .ref (ad 47)) (C := RX8) (T := TX8) (N := 6) hx hb hts inG8 hown hK hP 5 (gX_5 cs ad nu4) rfl 1 (by decide) (hts _ (List.mem_cons_of_mem _ mw_1_110)) (fun _ h9 => h9) rfl dX2_undoLast_32 ?_
    refine lv_aload_n hx hb dX2_undoLast_35 rfl (lv_at hl 0 rfl) ?_
    refine va_get (D := (dC, dI)) (ci := 7) (v := .int (nu4 (77 + t3.toNatClampNeg) 1)) (C := RX7) (T := TX7) (N := 7) hx hb hts inG7 hown hK hP (77 + t3.toNatClampNeg) (gX_sale cs ad nu4 (77 + t3.toNatClampNeg) hk7.1 hk7.2) rfl 1 (by decide) (hts _ (List.mem_cons_of_mem _ mw_1_225)) (fun _ h9 => h9) rfl dX2_undoLast_36 ?_
    refine lv_topi (fun y8 ey8 => ?_)
    have hF := mi_let hF ey8
    have by8 : y8.toInt = (nu4 (77 + t3.toNatClampNeg) 1).toInt := congrArg Int32.toInt ey8
    have gy8 : 0 ≤ y8.toInt ∧ y8.toInt ≤ 3 := by rw [ey8]; exact rX_sale_1 ok (77 + t3.toNatClampNeg) hk7.1 hk7.2
    have hx9 : 0 ≤ y8.toInt ∧ y8.toInt < ((4 : Nat) : Int) := ⟨by omega, by omega⟩
    refine va_aldq hx hb hK hP 47 5 (gX_47 cs ad nu4) rfl (show vp_in y8 4 from vi_of hx9.1 hx9.2) dX2_undoLast_39 ?_
    have hk9 : 61 ≤ (61 + y8.toNatClampNeg) ∧ (61 + y8.toNatClampNeg) < 65 := ix_of hx9
    have hk9 : 61 ≤ (61 + y8.toNatClampNeg) ∧ (61 + y8.toNatClampNeg) < 77 := ⟨Nat.le_trans (by decide) hk9.1, Nat.lt_of_lt_of_le hk9.2 (by decide)⟩
    refine lq_v (.ref (ad (61 + y8.toNatClampNeg))) rfl ?_
    refine lv_astore_n (lv' := [(3, .ref (ad (61 + y8.toNatClampNeg))), (2, .ref (ad (77 + t3.toNatClampNeg))), (0, .ref (ad 6)), (1, .ref (ad 4))]) hx hb dX2_undoLast_40 rfl hl (by decide) rfl (fun ls hl => ?_)
    refine lv_aload_n hx hb dX2_undoLast_41 rfl (lv_at hl 0 rfl) ?_
    refine lv_aload_n hx hb dX2_undoLast_42 rfl (lv_at hl 1 rfl) ?_
    refine va_get (D := (dC, dI)) (ci := 7) (v := .int (nu4 (77 + t3.toNatClampNeg) 2)) (C := RX7) (T := TX7) (N := 7) hx hb hts inG7 hown hK hP (77 + t3.toNatClampNeg) (gX_sale cs ad nu4 (77 + t3.toNatClampNeg) hk7.1 hk7.2) rfl 2 (by decide) (hts _ (List.mem_cons_of_mem _ mw_1_226)) (fun _ h9 => h9) rfl dX2_undoLast_43 ?_
    refine lv_topi (fun y10 ey10 => ?_)
    have hF := mi_let hF ey10
    have by10 : y10.toInt = (nu4 (77 + t3.toNatClampNeg) 2).toInt := congrArg Int32.toInt ey10
    have gy10 : 0 ≤ y10.toInt ∧ y10.toInt ≤ 6 := by rw [ey10]; exact rX_sale_2 ok (77 + t3.toNatClampNeg) hk7.1 hk7.2
    refine va_put (D := (dC, dI)) (ci := 3) (v := .int y10) (ty := .int) (C := RX3) (T := TX3) (N := 10) hx hb hts inG3 tyX3 tyX3_ok nmX3 hown hK hP (wR_D nu4 hD) hS (61 + y8.toNatClampNeg) (gX_letter cs ad nu4 (61 + y8.toNatClampNeg) hk9.1 hk9.2) rfl 5 (by decide) (hts _ (List.mem_cons_of_mem _ mw_1_63)) (fun _ h9 => h9) rfl (by decide +kernel) rfl rfl (Nat.le_of_ble_eq_true rfl) dX2_undoLast_46 (fun H locs hP _ hS => ?_)
    simp only [List.set_cons_succ, List.set_cons_zero] at hP
    refine wr_gen (upd (nu4 (61 + y8.toNatClampNeg)) 5 y10) hP ((hX_letter_5 cs ad _ _ (61 + y8.toNatClampNeg) hk9.1 hk9.2)) (fun nu11 hn11 hP => ?_)
    have hF := mi_let hF hn11.symm
    have ok := tX_letter_5 ok (61 + y8.toNatClampNeg) hk9.1 hk9.2 hn11 (by omega)
    have ez12 : t3 = nu11 6 1 := ez6.trans (congrFun (up_k hn11 (ne_lo (by decide) hk9.1)) 1).symm
    have ez13 : y8 = nu11 (77 + t3.toNatClampNeg) 1 := ey8.trans (congrFun (up_k hn11 (ne_gg hk7.1 (by decide) hk9.2)) 1).symm
    have ez14 : y10 = nu11 (77 + t3.toNatClampNeg) 2 := ey10.trans (congrFun (up_k hn11 (ne_gg hk7.1 (by decide) hk9.2)) 2).symm
    have kp15 : (∀ k f : Nat, Nat.testBit 486 (gpX k f) = true → nu11 k f = mu k f) := kp_c 3 hn11 (fun _ => gpX_letter hk9.1 hk9.2) (by decide) kp5
    have ez16 : y10 = nu11 (61 + y8.toNatClampNeg) 5 := up_v hn11
    refine lv_aload_n hx hb dX2_undoLast_49 rfl (lv_at hl 0 rfl) ?_
    refine lv_aload_n hx hb dX2_undoLast_50 rfl (lv_at hl 1 rfl) ?_
    refine va_get (D := (dC, dI)) (ci := 7) (v := .int (nu11 (77 + t3.toNatClampNeg) 5)) (C := RX7) (T := TX7) (N := 7) hx hb hts inG7 hown hK hP (77 + t3.toNatClampNeg) (gX_sale cs ad nu11 (77 + t3.toNatClampNeg) hk7.1 hk7.2) rfl 5 (by decide) (hts _ (List.mem_cons_of_mem _ mw_1_229)) (fun _ h9 => h9) rfl dX2_undoLast_51 ?_
    refine lv_topi (fun y17 ey17 => ?_)
    have hF := mi_let hF ey17
    have by17 : y17.toInt = (nu11 (77 + t3.toNatClampNeg) 5).toInt := congrArg Int32.toInt ey17
    refine va_put (D := (dC, dI)) (ci := 3) (v := .int y17) (ty := .int) (C := RX3) (T := TX3) (N := 10) hx hb hts inG3 tyX3 tyX3_ok nmX3 hown hK hP (wR_D nu11 hD) hS (61 + y8.toNatClampNeg) (gX_letter cs ad nu11 (61 + y8.toNatClampNeg) hk9.1 hk9.2) rfl 6 (by decide) (hts _ (List.mem_cons_of_mem _ mw_1_68)) (fun _ h9 => h9) rfl (by decide +kernel) rfl rfl (Nat.le_of_ble_eq_true rfl) dX2_undoLast_54 (fun H locs hP _ hS => ?_)
    simp only [List.set_cons_succ, List.set_cons_zero] at hP
    refine wr_gen (upd (nu11 (61 + y8.toNatClampNeg)) 6 y17) hP ((hX_letter_6 cs ad _ _ (61 + y8.toNatClampNeg) hk9.1 hk9.2)) (fun nu18 hn18 hP => ?_)
    have hF := mi_let hF hn18.symm
    have ok := tX_letter_6 ok (61 + y8.toNatClampNeg) hk9.1 hk9.2 hn18
    have ez19 : t3 = nu18 6 1 := ez12.trans (congrFun (up_k hn18 (ne_lo (by decide) hk9.1)) 1).symm
    have ez20 : y8 = nu18 (77 + t3.toNatClampNeg) 1 := ez13.trans (congrFun (up_k hn18 (ne_gg hk7.1 (by decide) hk9.2)) 1).symm
    have ez21 : y10 = nu18 (77 + t3.toNatClampNeg) 2 := ez14.trans (congrFun (up_k hn18 (ne_gg hk7.1 (by decide) hk9.2)) 2).symm
    have ez22 : y10 = nu18 (61 + y8.toNatClampNeg) 5 := ez16.trans (up_f hn18 (by decide)).symm
    have ez23 : y17 = nu18 (77 + t3.toNatClampNeg) 5 := ey17.trans (congrFun (up_k hn18 (ne_gg hk7.1 (by decide) hk9.2)) 5).symm
    have kp24 : (∀ k f : Nat, Nat.testBit 486 (gpX k f) = true → nu18 k f = mu k f) := kp_c 3 hn18 (fun _ => gpX_letter hk9.1 hk9.2) (by decide) kp15
    have ez25 : y17 = nu18 (61 + y8.toNatClampNeg) 6 := up_v hn18
    refine lv_aload_n hx hb dX2_undoLast_57 rfl (lv_at hl 0 rfl) ?_
    refine lv_aload_n hx hb dX2_undoLast_58 rfl (lv_at hl 1 rfl) ?_
    refine va_get (D := (dC, dI)) (ci := 7) (v := .int (nu18 (77 + t3.toNatClampNeg) 6)) (C := RX7) (T := TX7) (N := 7) hx hb hts inG7 hown hK hP (77 + t3.toNatClampNeg) (gX_sale cs ad nu18 (77 + t3.toNatClampNeg) hk7.1 hk7.2) rfl 6 (by decide) (hts _ (List.mem_cons_of_mem _ mw_1_230)) (fun _ h9 => h9) rfl dX2_undoLast_59 ?_
    refine lv_topi (fun y26 ey26 => ?_)
    have hF := mi_let hF ey26
    have by26 : y26.toInt = (nu18 (77 + t3.toNatClampNeg) 6).toInt := congrArg Int32.toInt ey26
    refine va_put (D := (dC, dI)) (ci := 3) (v := .int y26) (ty := .int) (C := RX3) (T := TX3) (N := 10) hx hb hts inG3 tyX3 tyX3_ok nmX3 hown hK hP (wR_D nu18 hD) hS (61 + y8.toNatClampNeg) (gX_letter cs ad nu18 (61 + y8.toNatClampNeg) hk9.1 hk9.2) rfl 7 (by decide) (hts _ (List.mem_cons_of_mem _ mw_1_73)) (fun _ h9 => h9) rfl (by decide +kernel) rfl rfl (Nat.le_of_ble_eq_true rfl) dX2_undoLast_62 (fun H locs hP _ hS => ?_)
    simp only [List.set_cons_succ, List.set_cons_zero] at hP
    refine wr_gen (upd (nu18 (61 + y8.toNatClampNeg)) 7 y26) hP ((hX_letter_7 cs ad _ _ (61 + y8.toNatClampNeg) hk9.1 hk9.2)) (fun nu27 hn27 hP => ?_)
    have hF := mi_let hF hn27.symm
    have ok := tX_letter_7 ok (61 + y8.toNatClampNeg) hk9.1 hk9.2 hn27
    have ez28 : t3 = nu27 6 1 := ez19.trans (congrFun (up_k hn27 (ne_lo (by decide) hk9.1)) 1).symm
    have ez29 : y8 = nu27 (77 + t3.toNatClampNeg) 1 := ez20.trans (congrFun (up_k hn27 (ne_gg hk7.1 (by decide) hk9.2)) 1).symm
    have ez30 : y10 = nu27 (77 + t3.toNatClampNeg) 2 := ez21.trans (congrFun (up_k hn27 (ne_gg hk7.1 (by decide) hk9.2)) 2).symm
    have ez31 : y10 = nu27 (61 + y8.toNatClampNeg) 5 := ez22.trans (up_f hn27 (by decide)).symm
    have ez32 : y17 = nu27 (77 + t3.toNatClampNeg) 5 := ez23.trans (congrFun (up_k hn27 (ne_gg hk7.1 (by decide) hk9.2)) 5).symm
    have ez33 : y17 = nu27 (61 + y8.toNatClampNeg) 6 := ez25.trans (up_f hn27 (by decide)).symm
    have ez34 : y26 = nu27 (77 + t3.toNatClampNeg) 6 := ey26.trans (congrFun (up_k hn27 (ne_gg hk7.1 (by decide) hk9.2)) 6).symm
    have kp35 : (∀ k f : Nat, Nat.testBit 486 (gpX k f) = true → nu27 k f = mu k f) := kp_c 3 hn27 (fun _ => gpX_letter hk9.1 hk9.2) (by decide) kp24
    have ez36 : y26 = nu27 (61 + y8.toNatClampNeg) 7 := up_v hn27
    refine lv_aload_n hx hb dX2_undoLast_65 rfl (lv_at hl 0 rfl) ?_
    refine lv_dup hx hb dX2_undoLast_66 rfl ?_
    refine va_get (D := (dC, dI)) (ci := 3) (v := .int (nu27 (61 + y8.toNatClampNeg) 8)) (C := RX3) (T := TX3) (N := 10) hx hb hts inG3 hown hK hP (61 + y8.toNatClampNeg) (gX_letter cs ad nu27 (61 + y8.toNatClampNeg) hk9.1 hk9.2) rfl 8 (by decide) (hts _ (List.mem_cons_of_mem _ mw_1_76)) (fun _ h9 => h9) rfl dX2_undoLast_67 ?_
    refine lv_topi (fun y37 ey37 => ?_)
    have hF := mi_let hF ey37
    have by37 : y37.toInt = (nu27 (61 + y8.toNatClampNeg) 8).toInt := congrArg Int32.toInt ey37
    refine lv_iconst (v := 1) hx hb dX2_undoLast_70 (by decide) ?_
    refine lv_isub hx hb dX2_undoLast_71 ?_
    refine lv_topi (fun t38 et38 => ?_)
    have hF := mi_let hF et38
    refine va_put (D := (dC, dI)) (ci := 3) (v := .int t38) (ty := .int) (C := RX3) (T := TX3) (N := 10) hx hb hts inG3 tyX3 tyX3_ok nmX3 hown hK hP (wR_D nu27 hD) hS (61 + y8.toNatClampNeg) (gX_letter cs ad nu27 (61 + y8.toNatClampNeg) hk9.1 hk9.2) rfl 8 (by decide) (hts _ (List.mem_cons_of_mem _ mw_1_76)) (fun _ h9 => h9) rfl (by decide +kernel) rfl rfl (Nat.le_of_ble_eq_true rfl) dX2_undoLast_72 (fun H locs hP _ hS => ?_)
    simp only [List.set_cons_succ, List.set_cons_zero] at hP
    refine wr_gen (upd (nu27 (61 + y8.toNatClampNeg)) 8 t38) hP ((hX_letter_8 cs ad _ _ (61 + y8.toNatClampNeg) hk9.1 hk9.2)) (fun nu39 hn39 hP => ?_)
    have hF := mi_let hF hn39.symm
    have ok := tX_letter_8 ok (61 + y8.toNatClampNeg) hk9.1 hk9.2 hn39
    have ez40 : t3 = nu39 6 1 := ez28.trans (congrFun (up_k hn39 (ne_lo (by decide) hk9.1)) 1).symm
    have ez41 : y8 = nu39 (77 + t3.toNatClampNeg) 1 := ez29.trans (congrFun (up_k hn39 (ne_gg hk7.1 (by decide) hk9.2)) 1).symm
    have ez42 : y10 = nu39 (77 + t3.toNatClampNeg) 2 := ez30.trans (congrFun (up_k hn39 (ne_gg hk7.1 (by decide) hk9.2)) 2).symm
    have ez43 : y10 = nu39 (61 + y8.toNatClampNeg) 5 := ez31.trans (up_f hn39 (by decide)).symm
    have ez44 : y17 = nu39 (77 + t3.toNatClampNeg) 5 := ez32.trans (congrFun (up_k hn39 (ne_gg hk7.1 (by decide) hk9.2)) 5).symm
    have ez45 : y17 = nu39 (61 + y8.toNatClampNeg) 6 := ez33.trans (up_f hn39 (by decide)).symm
    have ez46 : y26 = nu39 (77 + t3.toNatClampNeg) 6 := ez34.trans (congrFun (up_k hn39 (ne_gg hk7.1 (by decide) hk9.2)) 6).symm
    have ez47 : y26 = nu39 (61 + y8.toNatClampNeg) 7 := ez36.trans (up_f hn39 (by decide)).symm
    have kp48 : (∀ k f : Nat, Nat.testBit 486 (gpX k f) = true → nu39 k f = mu k f) := kp_c 3 hn39 (fun _ => gpX_letter hk9.1 hk9.2) (by decide) kp35
    have ez49 : t38 = nu39 (61 + y8.toNatClampNeg) 8 := up_v hn39
    refine lv_aload_n hx hb dX2_undoLast_75 rfl (lv_at hl 0 rfl) ?_
    refine lv_iconst (v := 0) hx hb dX2_undoLast_76 (by decide) ?_
    refine va_put (D := (dC, dI)) (ci := 3) (v := .int 0) (ty := .boolean) (C := RX3) (T := TX3) (N := 10) hx hb hts inG3 tyX3 tyX3_ok nmX3 hown hK hP (wR_D nu39 hD) hS (61 + y8.toNatClampNeg) (gX_letter cs ad nu39 (61 + y8.toNatClampNeg) hk9.1 hk9.2) rfl 9 (by decide) (hts _ (List.mem_cons_of_mem _ mw_1_78)) (fun _ h9 => h9) rfl (by decide +kernel) (by first | rfl | decide) (by first | rfl | decide) (Nat.le_of_ble_eq_true rfl) dX2_undoLast_77 (fun H locs hP _ hS => ?_)
    simp only [List.set_cons_succ, List.set_cons_zero] at hP
    refine wr_gen (upd (nu39 (61 + y8.toNatClampNeg)) 9 0) hP ((hX_letter_9 cs ad _ _ (61 + y8.toNatClampNeg) hk9.1 hk9.2)) (fun nu50 hn50 hP => ?_)
    have hF := mi_let hF hn50.symm
    have ok := tX_letter_9 ok (61 + y8.toNatClampNeg) hk9.1 hk9.2 hn50 (by have h9 : (0 : Int32).toInt = 0 := rfl; exact ⟨by omega, by omega⟩)
    have ez51 : t3 = nu50 6 1 := ez40.trans (congrFun (up_k hn50 (ne_lo (by decide) hk9.1)) 1).symm
    have ez52 : y8 = nu50 (77 + t3.toNatClampNeg) 1 := ez41.trans (congrFun (up_k hn50 (ne_gg hk7.1 (by decide) hk9.2)) 1).symm
    have ez53 : y10 = nu50 (77 + t3.toNatClampNeg) 2 := ez42.trans (congrFun (up_k hn50 (ne_gg hk7.1 (by decide) hk9.2)) 2).symm
    have ez54 : y10 = nu50 (61 + y8.toNatClampNeg) 5 := ez43.trans (up_f hn50 (by decide)).symm
    have ez55 : y17 = nu50 (77 + t3.toNatClampNeg) 5 := ez44.trans (congrFun (up_k hn50 (ne_gg hk7.1 (by decide) hk9.2)) 5).symm
    have ez56 : y17 = nu50 (61 + y8.toNatClampNeg) 6 := ez45.trans (up_f hn50 (by decide)).symm
    have ez57 : y26 = nu50 (77 + t3.toNatClampNeg) 6 := ez46.trans (congrFun (up_k hn50 (ne_gg hk7.1 (by decide) hk9.2)) 6).symm
    have ez58 : y26 = nu50 (61 + y8.toNatClampNeg) 7 := ez47.trans (up_f hn50 (by decide)).symm
    have ez59 : t38 = nu50 (61 + y8.toNatClampNeg) 8 := ez49.trans (up_f hn50 (by decide)).symm
    have kp60 : (∀ k f : Nat, Nat.testBit 486 (gpX k f) = true → nu50 k f = mu k f) := kp_c 3 hn50 (fun _ => gpX_letter hk9.1 hk9.2) (by decide) kp48
    have ez61 : 0 = nu50 (61 + y8.toNatClampNeg) 9 := up_v hn50
    refine lv_aload_n hx hb dX2_undoLast_80 rfl (lv_at hl 1 rfl) ?_
    have hk62 : 117 ≤ (77 + t3.toNatClampNeg) + 40 ∧ (77 + t3.toNatClampNeg) + 40 < 157 := add_in 40 hk7.1 hk7.2
    refine va_get (D := (dC, dI)) (ci := 7) (v := .ref (ad ((77 + t3.toNatClampNeg) + 40))) (C := RX7) (T := TX7) (N := 7) hx hb hts inG7 hown hK hP (77 + t3.toNatClampNeg) (gX_sale cs ad nu50 (77 + t3.toNatClampNeg) hk7.1 hk7.2) rfl 0 (by decide) (hts _ (List.mem_cons_of_mem _ mw_1_224)) (fun _ h9 => h9) rfl dX2_undoLast_81 ?_
    refine lv_iconst (v := 0) hx hb dX2_undoLast_84 (by decide) ?_
    refine lv_aload_n hx hb dX2_undoLast_85 rfl (lv_at hl 3 rfl) ?_
    refine va_get (D := (dC, dI)) (ci := 10) (v := .ref (ad 5)) (C := RX10) (T := TX10) (N := 8) hx hb hts inG10 hown hK hP 4 (gX_4 cs ad nu50) rfl 3 (by decide) (hts _ (List.mem_cons_of_mem _ mw_1_154)) (fun _ h9 => h9) rfl dX2_undoLast_86 ?_
    refine va_get (D := (dC, dI)) (ci := 8) (v := .ref (ad 46)) (C := RX8) (T := TX8) (N := 6) hx hb hts inG8 hown hK hP 5 (gX_5 cs ad nu50) rfl 0 (by decide) (hts _ (List.mem_cons_of_mem _ mw_1_105)) (fun _ h9 => h9) rfl dX2_undoLast_89 ?_
    refine lv_iconst (v := 0) hx hb dX2_undoLast_92 (by decide) ?_
    refine lv_bipush (v := 7) hx hb dX2_undoLast_93 (by decide) ?_
    refine va_copyi hx hb (hml.trans hl.1.symm) hown (hts _ (List.mem_cons_of_mem _ mw_3_184)) (hts _ (List.mem_cons_of_mem _ mw_3_4)) (hts _ (List.mem_cons_of_mem _ mw_3_3)) (hts _ (List.mem_cons_of_mem _ mw_1_15)) hK hP (wR_D nu50 hD) hS ((77 + t3.toNatClampNeg) + 40) 46 0 0 (gX_spurses cs ad nu50 ((77 + t3.toNatClampNeg) + 40) hk62.1 hk62.2) (gX_46 cs ad nu50) rfl rfl rfl (by decide) (by decide) (by decide) (by have ua : ((0 : Int32).toNatClampNeg : Int) = 0 := rfl; have ub : ((0 : Int32).toNatClampNeg : Int) = 0 := rfl; have uc : ((7 : Int32).toNatClampNeg : Int) = 7 := rfl; omega) (by have ua : ((0 : Int32).toNatClampNeg : Int) = 0 := rfl; have ub : ((0 : Int32).toNatClampNeg : Int) = 0 := rfl; have uc : ((7 : Int32).toNatClampNeg : Int) = 7 := rfl; omega) (fun _ _ => rfl) (Nat.le_of_ble_eq_true rfl) (Nat.le_of_ble_eq_true rfl) dX2_undoLast_95 (fun H locs hP _ hS => ?_)
    refine wr_gen (va_cpy (nu50 ((77 + t3.toNatClampNeg) + 40)) (nu50 46) (0 : Int32).toNatClampNeg (0 : Int32).toNatClampNeg (7 : Int32).toNatClampNeg) hP (rfl) (fun nu63 hn63 hP => ?_)
    have hF := mi_let hF hn63.symm
    have ok := okR_cp ok hn63 (cX_spurses_46 ((77 + t3.toNatClampNeg) + 40) hk62.1 hk62.2 )
    have ez64 : t3 = nu63 6 1 := ez51.trans (congrFun (up_k hn63 (by decide)) 1).symm
    have ez65 : y8 = nu63 (77 + t3.toNatClampNeg) 1 := ez52.trans (congrFun (up_k hn63 (ne_lo (by decide) hk7.1).symm) 1).symm
    have ez66 : y10 = nu63 (77 + t3.toNatClampNeg) 2 := ez53.trans (congrFun (up_k hn63 (ne_lo (by decide) hk7.1).symm) 2).symm
    have ez67 : y10 = nu63 (61 + y8.toNatClampNeg) 5 := ez54.trans (congrFun (up_k hn63 (ne_lo (by decide) hk9.1).symm) 5).symm
    have ez68 : y17 = nu63 (77 + t3.toNatClampNeg) 5 := ez55.trans (congrFun (up_k hn63 (ne_lo (by decide) hk7.1).symm) 5).symm
    have ez69 : y17 = nu63 (61 + y8.toNatClampNeg) 6 := ez56.trans (congrFun (up_k hn63 (ne_lo (by decide) hk9.1).symm) 6).symm
    have ez70 : y26 = nu63 (77 + t3.toNatClampNeg) 6 := ez57.trans (congrFun (up_k hn63 (ne_lo (by decide) hk7.1).symm) 6).symm
    have ez71 : y26 = nu63 (61 + y8.toNatClampNeg) 7 := ez58.trans (congrFun (up_k hn63 (ne_lo (by decide) hk9.1).symm) 7).symm
    have ez72 : t38 = nu63 (61 + y8.toNatClampNeg) 8 := ez59.trans (congrFun (up_k hn63 (ne_lo (by decide) hk9.1).symm) 8).symm
    have ez73 : 0 = nu63 (61 + y8.toNatClampNeg) 9 := ez61.trans (congrFun (up_k hn63 (ne_lo (by decide) hk9.1).symm) 9).symm
    have kp74 : (∀ k f : Nat, Nat.testBit 486 (gpX k f) = true → nu63 k f = mu k f) := kp_c 3 hn63 (fun _ => rfl) (by decide) kp60
    exact W.vret hx hb hr (fun t ht hW => ⟨⟨nu63, rfl, ⟨hF.trans hfz.symm, ok, trivial, kp74⟩, by first | (subst ht; exact hP) | (rw [ht]; exact hP) | (show va_P (dC, dI) vwCl (wR 157 ad (EX cs ad) nu63) t.heap; rw [ht]; exact hP)⟩, hS.F ht⟩) hS.2.2 dX2_undoLast_98
  · have hF := (if_neg c_2).symm.trans hF
    have c_2 : y1.toInt ≤ 0 := il_nlt c_2
    exact W.vret hx hb hr (fun t ht hW => ⟨⟨mu, rfl, ⟨hF.trans hfz.symm, ok, trivial, (fun _ _ _ => rfl)⟩, by first | (subst ht; exact hP) | (rw [ht]; exact hP) | (show va_P (dC, dI) vwCl (wR 157 ad (EX cs ad) mu) t.heap; rw [ht]; exact hP)⟩, hS.F ht⟩) hS.2.2 dX2_undoLast_7
theorem mw_1_103 : (Cond.fieldLink RX8 9 "DearLetters$Standing" "purses" "[I" : Cond) ∈ lw_good := lg_at 1 103 rfl rfl
theorem mw_3_225 : (Cond.methodLink RX8 22 arraycopyName : Cond) ∈ lw_good := lg_at 3 225 rfl rfl
theorem mw_1_113 : (Cond.fieldLink RX8 32 "DearLetters$Standing" "snow" "I" : Cond) ∈ lw_good := lg_at 1 113 rfl rfl
theorem mw_1_120 : (Cond.fieldLink RX8 36 "DearLetters$Standing" "day" "I" : Cond) ∈ lw_good := lg_at 1 120 rfl rfl
theorem mw_1_125 : (Cond.fieldLink RX8 39 "DearLetters$Standing" "sent" "I" : Cond) ∈ lw_good := lg_at 1 125 rfl rfl
theorem mw_1_109 : (Cond.fieldLink RX8 17 "DearLetters$Standing" "letters" "[LDearLetters$Letter;" : Cond) ∈ lw_good := lg_at 1 109 rfl rfl
theorem mw_3_229 : (Cond.code yX3_beLike cX3_beLike 2 none : Cond) ∈ lw_good := lg_at 3 229 rfl rfl
theorem mw_3_226 : (Cond.methodLink RX8 28 yX3_beLike : Cond) ∈ lw_good := lg_at 3 226 rfl rfl
theorem mw_3_227 : (Cond.instanceMethod yX3_beLike : Cond) ∈ lw_good := lg_at 3 227 rfl rfl
theorem mw_3_228 : (Cond.selects RX3 yX3_beLike yX3_beLike : Cond) ∈ lw_good := lg_at 3 228 rfl rfl
theorem cX_40_46 {a b : Nat} : ∀ f, loX 46 f ≤ loX 40 (a + (f - b)) ∧ hiX 40 (a + (f - b)) ≤ hiX 46 f := fun f => by
  unfold loX hiX
  exact (show (-2147483648 : Int) ≤ -2147483648 ∧ (2147483647 : Int) ≤ 2147483647 by decide)
theorem rX_18_4 {mu : Nat → Nat → Int32} (ok : okR loX hiX mu) : 0 ≤ (mu 18 4).toInt ∧ (mu 18 4).toInt ≤ 4 := ok 18 4
theorem cX_41_46 {a b : Nat} : ∀ f, loX 46 f ≤ loX 41 (a + (f - b)) ∧ hiX 41 (a + (f - b)) ≤ hiX 46 f := fun f => by
  unfold loX hiX
  exact (show (-2147483648 : Int) ≤ -2147483648 ∧ (2147483647 : Int) ≤ 2147483647 by decide)
theorem rX_19_4 {mu : Nat → Nat → Int32} (ok : okR loX hiX mu) : 0 ≤ (mu 19 4).toInt ∧ (mu 19 4).toInt ≤ 4 := ok 19 4
theorem cX_42_46 {a b : Nat} : ∀ f, loX 46 f ≤ loX 42 (a + (f - b)) ∧ hiX 42 (a + (f - b)) ≤ hiX 46 f := fun f => by
  unfold loX hiX
  exact (show (-2147483648 : Int) ≤ -2147483648 ∧ (2147483647 : Int) ≤ 2147483647 by decide)
theorem rX_20_4 {mu : Nat → Nat → Int32} (ok : okR loX hiX mu) : 0 ≤ (mu 20 4).toInt ∧ (mu 20 4).toInt ≤ 4 := ok 20 4
theorem cX_46_40 {a b : Nat} : ∀ f, loX 40 f ≤ loX 46 (a + (f - b)) ∧ hiX 46 (a + (f - b)) ≤ hiX 40 f := fun f => by
  unfold loX hiX
  exact (show (-2147483648 : Int) ≤ -2147483648 ∧ (2147483647 : Int) ≤ 2147483647 by decide)
theorem hX_18_2 (cs : Nat → ClassId) (ad : Nat → Nat) (g : Nat → Int32) (v : Int32) : EX cs ad 18 (upd g 2 v) = .inr (8, [.ref (ad 40), .ref (ad 43), .int v, .int (g 3), .int (g 4), .int (g 5)]) := by
  rfl
theorem tX_18_2 {mu : Nat → Nat → Int32} (ok : okR loX hiX mu) {nu : Nat → Nat → Int32} {v : Int32} (hn : va_up mu 18 (upd (mu 18) 2 v) = nu) : okR loX hiX nu := by
  subst hn
  exact okR_up ok 18 2 v (tI_lo v) (tI_hi v)
theorem hX_18_3 (cs : Nat → ClassId) (ad : Nat → Nat) (g : Nat → Int32) (v : Int32) : EX cs ad 18 (upd g 3 v) = .inr (8, [.ref (ad 40), .ref (ad 43), .int (g 2), .int v, .int (g 4), .int (g 5)]) := by
  rfl
theorem tX_18_3 {mu : Nat → Nat → Int32} (ok : okR loX hiX mu) {nu : Nat → Nat → Int32} {v : Int32} (hn : va_up mu 18 (upd (mu 18) 3 v) = nu) : okR loX hiX nu := by
  subst hn
  exact okR_up ok 18 3 v (tI_lo v) (tI_hi v)
theorem hX_18_4 (cs : Nat → ClassId) (ad : Nat → Nat) (g : Nat → Int32) (v : Int32) : EX cs ad 18 (upd g 4 v) = .inr (8, [.ref (ad 40), .ref (ad 43), .int (g 2), .int (g 3), .int v, .int (g 5)]) := by
  rfl
theorem tX_18_4 {mu : Nat → Nat → Int32} (ok : okR loX hiX mu) {nu : Nat → Nat → Int32} {v : Int32} (hn : va_up mu 18 (upd (mu 18) 4 v) = nu) (hv : 0 ≤ v.toInt ∧ v.toInt ≤ 4) : okR loX hiX nu := by
  subst hn
  exact okR_up ok 18 4 v hv.1 hv.2
theorem cX_46_41 {a b : Nat} : ∀ f, loX 41 f ≤ loX 46 (a + (f - b)) ∧ hiX 46 (a + (f - b)) ≤ hiX 41 f := fun f => by
  unfold loX hiX
  exact (show (-2147483648 : Int) ≤ -2147483648 ∧ (2147483647 : Int) ≤ 2147483647 by decide)
theorem hX_19_2 (cs : Nat → ClassId) (ad : Nat → Nat) (g : Nat → Int32) (v : Int32) : EX cs ad 19 (upd g 2 v) = .inr (8, [.ref (ad 41), .ref (ad 44), .int v, .int (g 3), .int (g 4), .int (g 5)]) := by
  rfl
theorem tX_19_2 {mu : Nat → Nat → Int32} (ok : okR loX hiX mu) {nu : Nat → Nat → Int32} {v : Int32} (hn : va_up mu 19 (upd (mu 19) 2 v) = nu) : okR loX hiX nu := by
  subst hn
  exact okR_up ok 19 2 v (tI_lo v) (tI_hi v)
theorem hX_19_3 (cs : Nat → ClassId) (ad : Nat → Nat) (g : Nat → Int32) (v : Int32) : EX cs ad 19 (upd g 3 v) = .inr (8, [.ref (ad 41), .ref (ad 44), .int (g 2), .int v, .int (g 4), .int (g 5)]) := by
  rfl
theorem tX_19_3 {mu : Nat → Nat → Int32} (ok : okR loX hiX mu) {nu : Nat → Nat → Int32} {v : Int32} (hn : va_up mu 19 (upd (mu 19) 3 v) = nu) : okR loX hiX nu := by
  subst hn
  exact okR_up ok 19 3 v (tI_lo v) (tI_hi v)
theorem hX_19_4 (cs : Nat → ClassId) (ad : Nat → Nat) (g : Nat → Int32) (v : Int32) : EX cs ad 19 (upd g 4 v) = .inr (8, [.ref (ad 41), .ref (ad 44), .int (g 2), .int (g 3), .int v, .int (g 5)]) := by
  rfl
theorem tX_19_4 {mu : Nat → Nat → Int32} (ok : okR loX hiX mu) {nu : Nat → Nat → Int32} {v : Int32} (hn : va_up mu 19 (upd (mu 19) 4 v) = nu) (hv : 0 ≤ v.toInt ∧ v.toInt ≤ 4) : okR loX hiX nu := by
  subst hn
  exact okR_up ok 19 4 v hv.1 hv.2
theorem cX_46_42 {a b : Nat} : ∀ f, loX 42 f ≤ loX 46 (a + (f - b)) ∧ hiX 46 (a + (f - b)) ≤ hiX 42 f := fun f => by
  unfold loX hiX
  exact (show (-2147483648 : Int) ≤ -2147483648 ∧ (2147483647 : Int) ≤ 2147483647 by decide)
theorem hX_20_2 (cs : Nat → ClassId) (ad : Nat → Nat) (g : Nat → Int32) (v : Int32) : EX cs ad 20 (upd g 2 v) = .inr (8, [.ref (ad 42), .ref (ad 45), .int v, .int (g 3), .int (g 4), .int (g 5)]) := by
  rfl
theorem tX_20_2 {mu : Nat → Nat → Int32} (ok : okR loX hiX mu) {nu : Nat → Nat → Int32} {v : Int32} (hn : va_up mu 20 (upd (mu 20) 2 v) = nu) : okR loX hiX nu := by
  subst hn
  exact okR_up ok 20 2 v (tI_lo v) (tI_hi v)
theorem hX_20_3 (cs : Nat → ClassId) (ad : Nat → Nat) (g : Nat → Int32) (v : Int32) : EX cs ad 20 (upd g 3 v) = .inr (8, [.ref (ad 42), .ref (ad 45), .int (g 2), .int v, .int (g 4), .int (g 5)]) := by
  rfl
theorem tX_20_3 {mu : Nat → Nat → Int32} (ok : okR loX hiX mu) {nu : Nat → Nat → Int32} {v : Int32} (hn : va_up mu 20 (upd (mu 20) 3 v) = nu) : okR loX hiX nu := by
  subst hn
  exact okR_up ok 20 3 v (tI_lo v) (tI_hi v)
theorem hX_20_4 (cs : Nat → ClassId) (ad : Nat → Nat) (g : Nat → Int32) (v : Int32) : EX cs ad 20 (upd g 4 v) = .inr (8, [.ref (ad 42), .ref (ad 45), .int (g 2), .int (g 3), .int v, .int (g 5)]) := by
  rfl
theorem tX_20_4 {mu : Nat → Nat → Int32} (ok : okR loX hiX mu) {nu : Nat → Nat → Int32} {v : Int32} (hn : va_up mu 20 (upd (mu 20) 4 v) = nu) (hv : 0 ≤ v.toInt ∧ v.toInt ≤ 4) : okR loX hiX nu := by
  subst hn
  exact okR_up ok 20 4 v hv.1 hv.2
theorem lb_X8_beLike_0 : dl_ck (cX8_beLike.data.toList.drop 0) [43, 180, 0, 9, 3, 42, 180, 0, 9, 3, 16, 7, 184, 0, 22, 3, 61, 28, 7, 162, 0, 24, 42, 180, 0, 17, 28, 50, 43, 180, 0, 17] = true := by decide +kernel
theorem lb_X8_beLike_1 : dl_ck (cX8_beLike.data.toList.drop 32) [28, 50, 182, 0, 28, 132, 2, 1, 167, 255, 233, 42, 43, 180, 0, 32, 181, 0, 32, 42, 43, 180, 0, 36, 181, 0, 36, 42, 43, 180, 0, 39] = true := by decide +kernel
theorem lb_X8_beLike_2 : dl_ck (cX8_beLike.data.toList.drop 64) [181, 0, 39, 177] = true := by decide +kernel
theorem dX8_beLike_0 : decode cX8_beLike 0 = .ok (.aload_n 1, 1) := dx_43 (dl_at 0 0 lb_X8_beLike_0 rfl)
theorem dX8_beLike_1 : decode cX8_beLike 1 = .ok (.getfield 9, 3) := dx_180 (a := 0) (b := 9) (dl_at 0 1 lb_X8_beLike_0 rfl) (dl_at 0 2 lb_X8_beLike_0 rfl) (dl_at 0 3 lb_X8_beLike_0 rfl) rfl
theorem dX8_beLike_4 : decode cX8_beLike 4 = .ok (.iconst 0, 1) := dx_3 (dl_at 0 4 lb_X8_beLike_0 rfl)
theorem dX8_beLike_5 : decode cX8_beLike 5 = .ok (.aload_n 0, 1) := dx_42 (dl_at 0 5 lb_X8_beLike_0 rfl)
theorem dX8_beLike_6 : decode cX8_beLike 6 = .ok (.getfield 9, 3) := dx_180 (a := 0) (b := 9) (dl_at 0 6 lb_X8_beLike_0 rfl) (dl_at 0 7 lb_X8_beLike_0 rfl) (dl_at 0 8 lb_X8_beLike_0 rfl) rfl
theorem dX8_beLike_9 : decode cX8_beLike 9 = .ok (.iconst 0, 1) := dx_3 (dl_at 0 9 lb_X8_beLike_0 rfl)
theorem dX8_beLike_10 : decode cX8_beLike 10 = .ok (.bipush 7, 2) := dx_16 (dl_at 0 10 lb_X8_beLike_0 rfl) (dl_at 0 11 lb_X8_beLike_0 rfl) sg8_7
theorem dX8_beLike_12 : decode cX8_beLike 12 = .ok (.invokestatic 22, 3) := dx_184 (a := 0) (b := 22) (dl_at 0 12 lb_X8_beLike_0 rfl) (dl_at 0 13 lb_X8_beLike_0 rfl) (dl_at 0 14 lb_X8_beLike_0 rfl) rfl
theorem dX8_beLike_15 : decode cX8_beLike 15 = .ok (.iconst 0, 1) := dx_3 (dl_at 0 15 lb_X8_beLike_0 rfl)
theorem dX8_beLike_16 : decode cX8_beLike 16 = .ok (.istore_n 2, 1) := dx_61 (dl_at 0 16 lb_X8_beLike_0 rfl)
theorem dX8_beLike_17 : decode cX8_beLike 17 = .ok (.iload_n 2, 1) := dx_28 (dl_at 0 17 lb_X8_beLike_0 rfl)
theorem dX8_beLike_18 : decode cX8_beLike 18 = .ok (.iconst 4, 1) := dx_7 (dl_at 0 18 lb_X8_beLike_0 rfl)
theorem dX8_beLike_19 : decode cX8_beLike 19 = .ok (.if_icmp .ge 24, 3) := dx_162 (a := 0) (b := 24) (dl_at 0 19 lb_X8_beLike_0 rfl) (dl_at 0 20 lb_X8_beLike_0 rfl) (dl_at 0 21 lb_X8_beLike_0 rfl) sg16_24
theorem dX8_beLike_43 : decode cX8_beLike 43 = .ok (.aload_n 0, 1) := dx_42 (dl_at 32 11 lb_X8_beLike_1 rfl)
theorem dX8_beLike_44 : decode cX8_beLike 44 = .ok (.aload_n 1, 1) := dx_43 (dl_at 32 12 lb_X8_beLike_1 rfl)
theorem dX8_beLike_45 : decode cX8_beLike 45 = .ok (.getfield 32, 3) := dx_180 (a := 0) (b := 32) (dl_at 32 13 lb_X8_beLike_1 rfl) (dl_at 32 14 lb_X8_beLike_1 rfl) (dl_at 32 15 lb_X8_beLike_1 rfl) rfl
theorem dX8_beLike_48 : decode cX8_beLike 48 = .ok (.putfield 32, 3) := dx_181 (a := 0) (b := 32) (dl_at 32 16 lb_X8_beLike_1 rfl) (dl_at 32 17 lb_X8_beLike_1 rfl) (dl_at 32 18 lb_X8_beLike_1 rfl) rfl
theorem dX8_beLike_51 : decode cX8_beLike 51 = .ok (.aload_n 0, 1) := dx_42 (dl_at 32 19 lb_X8_beLike_1 rfl)
theorem dX8_beLike_52 : decode cX8_beLike 52 = .ok (.aload_n 1, 1) := dx_43 (dl_at 32 20 lb_X8_beLike_1 rfl)
theorem dX8_beLike_53 : decode cX8_beLike 53 = .ok (.getfield 36, 3) := dx_180 (a := 0) (b := 36) (dl_at 32 21 lb_X8_beLike_1 rfl) (dl_at 32 22 lb_X8_beLike_1 rfl) (dl_at 32 23 lb_X8_beLike_1 rfl) rfl
theorem dX8_beLike_56 : decode cX8_beLike 56 = .ok (.putfield 36, 3) := dx_181 (a := 0) (b := 36) (dl_at 32 24 lb_X8_beLike_1 rfl) (dl_at 32 25 lb_X8_beLike_1 rfl) (dl_at 32 26 lb_X8_beLike_1 rfl) rfl
theorem dX8_beLike_59 : decode cX8_beLike 59 = .ok (.aload_n 0, 1) := dx_42 (dl_at 32 27 lb_X8_beLike_1 rfl)
theorem dX8_beLike_60 : decode cX8_beLike 60 = .ok (.aload_n 1, 1) := dx_43 (dl_at 32 28 lb_X8_beLike_1 rfl)
theorem dX8_beLike_61 : decode cX8_beLike 61 = .ok (.getfield 39, 3) := dx_180 (a := 0) (b := 39) (dl_at 32 29 lb_X8_beLike_1 rfl) (dl_at 32 30 lb_X8_beLike_1 rfl) (dl_at 32 31 lb_X8_beLike_1 rfl) rfl
theorem dX8_beLike_64 : decode cX8_beLike 64 = .ok (.putfield 39, 3) := dx_181 (a := 0) (b := 39) (dl_at 64 0 lb_X8_beLike_2 rfl) (dl_at 64 1 lb_X8_beLike_2 rfl) (dl_at 64 2 lb_X8_beLike_2 rfl) rfl
theorem dX8_beLike_67 : decode cX8_beLike 67 = .ok (.return_, 1) := dx_177 (dl_at 64 3 lb_X8_beLike_2 rfl)
theorem dX8_beLike_22 : decode cX8_beLike 22 = .ok (.aload_n 0, 1) := dx_42 (dl_at 0 22 lb_X8_beLike_0 rfl)
theorem dX8_beLike_23 : decode cX8_beLike 23 = .ok (.getfield 17, 3) := dx_180 (a := 0) (b := 17) (dl_at 0 23 lb_X8_beLike_0 rfl) (dl_at 0 24 lb_X8_beLike_0 rfl) (dl_at 0 25 lb_X8_beLike_0 rfl) rfl
theorem dX8_beLike_26 : decode cX8_beLike 26 = .ok (.iload_n 2, 1) := dx_28 (dl_at 0 26 lb_X8_beLike_0 rfl)
theorem dX8_beLike_27 : decode cX8_beLike 27 = .ok (.aaload, 1) := dx_50 (dl_at 0 27 lb_X8_beLike_0 rfl)
theorem dX8_beLike_28 : decode cX8_beLike 28 = .ok (.aload_n 1, 1) := dx_43 (dl_at 0 28 lb_X8_beLike_0 rfl)
theorem dX8_beLike_29 : decode cX8_beLike 29 = .ok (.getfield 17, 3) := dx_180 (a := 0) (b := 17) (dl_at 0 29 lb_X8_beLike_0 rfl) (dl_at 0 30 lb_X8_beLike_0 rfl) (dl_at 0 31 lb_X8_beLike_0 rfl) rfl
theorem dX8_beLike_32 : decode cX8_beLike 32 = .ok (.iload_n 2, 1) := dx_28 (dl_at 32 0 lb_X8_beLike_1 rfl)
theorem dX8_beLike_33 : decode cX8_beLike 33 = .ok (.aaload, 1) := dx_50 (dl_at 32 1 lb_X8_beLike_1 rfl)
theorem dX8_beLike_34 : decode cX8_beLike 34 = .ok (.invokevirtual 28, 3) := dx_182 (a := 0) (b := 28) (dl_at 32 2 lb_X8_beLike_1 rfl) (dl_at 32 3 lb_X8_beLike_1 rfl) (dl_at 32 4 lb_X8_beLike_1 rfl) rfl
theorem dX8_beLike_37 : decode cX8_beLike 37 = .ok (.iinc 2 1, 3) := dx_132 (dl_at 32 5 lb_X8_beLike_1 rfl) (dl_at 32 6 lb_X8_beLike_1 rfl) (dl_at 32 7 lb_X8_beLike_1 rfl) sg8_1
theorem dX8_beLike_40 : decode cX8_beLike 40 = .ok (.goto (-23), 3) := dx_167 (a := 255) (b := 233) (dl_at 32 8 lb_X8_beLike_1 rfl) (dl_at 32 9 lb_X8_beLike_1 rfl) (dl_at 32 10 lb_X8_beLike_1 rfl) sg16_65513
def L_sx_Standing_beLike_5_18_17_0 : Nat → (Int32) → (Nat → Nat → Int32) → Nat → Nat → Int32
  | 0, v2_17, nu17_ => nu17_
  | n + 1, v2_17, nu17_ =>
    if v2_17 ≥ (4 : Int32) then (
      LETV (nu17_ 18 2 : Int32) fun y4 =>
      LETV (va_up nu17_ 5 (upd (nu17_ 5) 2 y4) : Nat → Nat → Int32) fun nu5 =>
      LETV (nu5 18 3 : Int32) fun y9 =>
      LETV (va_up nu5 5 (upd (nu5 5) 3 y9) : Nat → Nat → Int32) fun nu10 =>
      LETV (nu10 18 4 : Int32) fun y16 =>
      LETV (va_up nu10 5 (upd (nu10 5) 4 y16) : Nat → Nat → Int32) fun nu17 =>
      nu17
    ) else (
      LETV (F_sx_Letter_beLike nu17_ (61 + v2_17.toNatClampNeg) (65 + v2_17.toNatClampNeg) : Nat → Nat → Int32) fun xi27 =>
      LETV ((v2_17 + 1) : Int32) fun w29 =>
      L_sx_Standing_beLike_5_18_17_0 n (w29 : Int32) xi27
    )
def F_sx_Standing_beLike_5_18 (mu : Nat → Nat → Int32) : Nat → Nat → Int32 :=
  LETV (va_up mu 46 (va_cpy (mu 40) (mu 46) (0 : Int32).toNatClampNeg (0 : Int32).toNatClampNeg (7 : Int32).toNatClampNeg) : Nat → Nat → Int32) fun nu1 =>
  L_sx_Standing_beLike_5_18_17_0 7 (0 : Int32) nu1
def L_sx_Standing_beLike_5_19_17_0 : Nat → (Int32) → (Nat → Nat → Int32) → Nat → Nat → Int32
  | 0, v2_17, nu17_ => nu17_
  | n + 1, v2_17, nu17_ =>
    if v2_17 ≥ (4 : Int32) then (
      LETV (nu17_ 19 2 : Int32) fun y4 =>
      LETV (va_up nu17_ 5 (upd (nu17_ 5) 2 y4) : Nat → Nat → Int32) fun nu5 =>
      LETV (nu5 19 3 : Int32) fun y9 =>
      LETV (va_up nu5 5 (upd (nu5 5) 3 y9) : Nat → Nat → Int32) fun nu10 =>
      LETV (nu10 19 4 : Int32) fun y16 =>
      LETV (va_up nu10 5 (upd (nu10 5) 4 y16) : Nat → Nat → Int32) fun nu17 =>
      nu17
    ) else (
      LETV (F_sx_Letter_beLike nu17_ (61 + v2_17.toNatClampNeg) (69 + v2_17.toNatClampNeg) : Nat → Nat → Int32) fun xi27 =>
      LETV ((v2_17 + 1) : Int32) fun w29 =>
      L_sx_Standing_beLike_5_19_17_0 n (w29 : Int32) xi27
    )
def F_sx_Standing_beLike_5_19 (mu : Nat → Nat → Int32) : Nat → Nat → Int32 :=
  LETV (va_up mu 46 (va_cpy (mu 41) (mu 46) (0 : Int32).toNatClampNeg (0 : Int32).toNatClampNeg (7 : Int32).toNatClampNeg) : Nat → Nat → Int32) fun nu1 =>
  L_sx_Standing_beLike_5_19_17_0 7 (0 : Int32) nu1
def L_sx_Standing_beLike_5_20_17_0 : Nat → (Int32) → (Nat → Nat → Int32) → Nat → Nat → Int32
  | 0, v2_17, nu17_ => nu17_
  | n + 1, v2_17, nu17_ =>
    if v2_17 ≥ (4 : Int32) then (
      LETV (nu17_ 20 2 : Int32) fun y4 =>
      LETV (va_up nu17_ 5 (upd (nu17_ 5) 2 y4) : Nat → Nat → Int32) fun nu5 =>
      LETV (nu5 20 3 : Int32) fun y9 =>
      LETV (va_up nu5 5 (upd (nu5 5) 3 y9) : Nat → Nat → Int32) fun nu10 =>
      LETV (nu10 20 4 : Int32) fun y16 =>
      LETV (va_up nu10 5 (upd (nu10 5) 4 y16) : Nat → Nat → Int32) fun nu17 =>
      nu17
    ) else (
      LETV (F_sx_Letter_beLike nu17_ (61 + v2_17.toNatClampNeg) (73 + v2_17.toNatClampNeg) : Nat → Nat → Int32) fun xi27 =>
      LETV ((v2_17 + 1) : Int32) fun w29 =>
      L_sx_Standing_beLike_5_20_17_0 n (w29 : Int32) xi27
    )
def F_sx_Standing_beLike_5_20 (mu : Nat → Nat → Int32) : Nat → Nat → Int32 :=
  LETV (va_up mu 46 (va_cpy (mu 42) (mu 46) (0 : Int32).toNatClampNeg (0 : Int32).toNatClampNeg (7 : Int32).toNatClampNeg) : Nat → Nat → Int32) fun nu1 =>
  L_sx_Standing_beLike_5_20_17_0 7 (0 : Int32) nu1
def L_sx_Standing_beLike_18_5_17_0 : Nat → (Int32) → (Nat → Nat → Int32) → Nat → Nat → Int32
  | 0, v2_17, nu17_ => nu17_
  | n + 1, v2_17, nu17_ =>
    if v2_17 ≥ (4 : Int32) then (
      LETV (nu17_ 5 2 : Int32) fun y4 =>
      LETV (va_up nu17_ 18 (upd (nu17_ 18) 2 y4) : Nat → Nat → Int32) fun nu5 =>
      LETV (nu5 5 3 : Int32) fun y9 =>
      LETV (va_up nu5 18 (upd (nu5 18) 3 y9) : Nat → Nat → Int32) fun nu10 =>
      LETV (nu10 5 4 : Int32) fun y16 =>
      LETV (va_up nu10 18 (upd (nu10 18) 4 y16) : Nat → Nat → Int32) fun nu17 =>
      nu17
    ) else (
      LETV (F_sx_Letter_beLike nu17_ (65 + v2_17.toNatClampNeg) (61 + v2_17.toNatClampNeg) : Nat → Nat → Int32) fun xi27 =>
      LETV ((v2_17 + 1) : Int32) fun w29 =>
      L_sx_Standing_beLike_18_5_17_0 n (w29 : Int32) xi27
    )
def F_sx_Standing_beLike_18_5 (mu : Nat → Nat → Int32) : Nat → Nat → Int32 :=
  LETV (va_up mu 40 (va_cpy (mu 46) (mu 40) (0 : Int32).toNatClampNeg (0 : Int32).toNatClampNeg (7 : Int32).toNatClampNeg) : Nat → Nat → Int32) fun nu1 =>
  L_sx_Standing_beLike_18_5_17_0 7 (0 : Int32) nu1
def L_sx_Standing_beLike_19_5_17_0 : Nat → (Int32) → (Nat → Nat → Int32) → Nat → Nat → Int32
  | 0, v2_17, nu17_ => nu17_
  | n + 1, v2_17, nu17_ =>
    if v2_17 ≥ (4 : Int32) then (
      LETV (nu17_ 5 2 : Int32) fun y4 =>
      LETV (va_up nu17_ 19 (upd (nu17_ 19) 2 y4) : Nat → Nat → Int32) fun nu5 =>
      LETV (nu5 5 3 : Int32) fun y9 =>
      LETV (va_up nu5 19 (upd (nu5 19) 3 y9) : Nat → Nat → Int32) fun nu10 =>
      LETV (nu10 5 4 : Int32) fun y16 =>
      LETV (va_up nu10 19 (upd (nu10 19) 4 y16) : Nat → Nat → Int32) fun nu17 =>
      nu17
    ) else (
      LETV (F_sx_Letter_beLike nu17_ (69 + v2_17.toNatClampNeg) (61 + v2_17.toNatClampNeg) : Nat → Nat → Int32) fun xi27 =>
      LETV ((v2_17 + 1) : Int32) fun w29 =>
      L_sx_Standing_beLike_19_5_17_0 n (w29 : Int32) xi27
    )
def F_sx_Standing_beLike_19_5 (mu : Nat → Nat → Int32) : Nat → Nat → Int32 :=
  LETV (va_up mu 41 (va_cpy (mu 46) (mu 41) (0 : Int32).toNatClampNeg (0 : Int32).toNatClampNeg (7 : Int32).toNatClampNeg) : Nat → Nat → Int32) fun nu1 =>
  L_sx_Standing_beLike_19_5_17_0 7 (0 : Int32) nu1
def L_sx_Standing_beLike_20_5_17_0 : Nat → (Int32) → (Nat → Nat → Int32) → Nat → Nat → Int32
  | 0, v2_17, nu17_ => nu17_
  | n + 1, v2_17, nu17_ =>
    if v2_17 ≥ (4 : Int32) then (
      LETV (nu17_ 5 2 : Int32) fun y4 =>
      LETV (va_up nu17_ 20 (upd (nu17_ 20) 2 y4) : Nat → Nat → Int32) fun nu5 =>
      LETV (nu5 5 3 : Int32) fun y9 =>
      LETV (va_up nu5 20 (upd (nu5 20) 3 y9) : Nat → Nat → Int32) fun nu10 =>
      LETV (nu10 5 4 : Int32) fun y16 =>
      LETV (va_up nu10 20 (upd (nu10 20) 4 y16) : Nat → Nat → Int32) fun nu17 =>
      nu17
    ) else (
      LETV (F_sx_Letter_beLike nu17_ (73 + v2_17.toNatClampNeg) (61 + v2_17.toNatClampNeg) : Nat → Nat → Int32) fun xi27 =>
      LETV ((v2_17 + 1) : Int32) fun w29 =>
      L_sx_Standing_beLike_20_5_17_0 n (w29 : Int32) xi27
    )
def F_sx_Standing_beLike_20_5 (mu : Nat → Nat → Int32) : Nat → Nat → Int32 :=
  LETV (va_up mu 42 (va_cpy (mu 46) (mu 42) (0 : Int32).toNatClampNeg (0 : Int32).toNatClampNeg (7 : Int32).toNatClampNeg) : Nat → Nat → Int32) fun nu1 =>
  L_sx_Standing_beLike_20_5_17_0 7 (0 : Int32) nu1
