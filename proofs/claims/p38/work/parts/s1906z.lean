set_option maxHeartbeats 4000000 in
set_option maxRecDepth 100000 in
/-- sx_Standing_beLike_5_18 -/
theorem sx_Standing_beLike_5_18 (l : Launch) (dC : Nat → ClassId) (dI : Nat → Nat → Nat) (cs : Nat → ClassId) (ad : Nat → Nat) (mu : Nat → Nat → Int32) (ok : okR loX hiX mu) (H : Heap) (hP : va_P (dC, dI) vwCl (wR 157 ad (EX cs ad) mu) H) (hD0 : va_D (fun _ => True) (wR 157 ad (EX cs ad) mu)) : Met l yX8_beLike (wU yX8_beLike cX8_beLike 3 none) ({ frames := 1, cells := 0, slots := 0, locals := 60 }) (va_Pc [.ref (ad 5), .ref (ad 18)] (sz_P (dC, dI) vwCl (tyW cs) H)) (va_Qv (fun (xi : Nat → Nat → Int32) => xi = F_sx_Standing_beLike_5_18 mu ∧ okR loX hiX xi ∧ (True) ∧ (∀ k f : Nat, Nat.testBit 54 (gpX k f) = true → xi k f = mu k f)) (fun xi t => va_P (dC, dI) vwCl (wR 157 ad (EX cs ad) xi) t.heap) (va_A (wR 157 ad (EX cs ad) mu) H.size)) 0 0 (va_A (wR 157 ad (EX cs ad) mu) H.size) := by
  refine Met.ofW (cc := cX8_beLike) (maxL := 3) (ret := none) (by decide) rfl ?_
  intro p e s m args below meth c s₁ B hml hv
  obtain ⟨rfl, hh, hK, hz⟩ := hv
  have hx := B.exec
  have hb := B.bytes
  have hr := B.returns
  have hts := atoms_spec (ws := (wU yX8_beLike cX8_beLike 3 none)) B.pre
  have hown : s.vm.findClass RX8 = some m.cls := findClass_of_methodNamed B.named
  have hlocks := B.notSynchronized
  subst hh
  have hD := hD0.self (sz := s.heap.size)
  have hA : ∀ q : Nat, s.heap.size ≤ q → (va_A (wR 157 ad (EX cs ad) mu) s.heap.size) q := fun q h => Or.inr h
  have hS : va_S (va_A (wR 157 ad (EX cs ad) mu) s.heap.size) s.heap s.heap [] := va_S.rf
  have hl := lv_entry ([.ref (ad 5), .ref (ad 18)]) (n := 3) (Nat.le_of_ble_eq_true rfl)
  rw [lg_entry_eq]
  generalize (lg_sl ([.ref (ad 5), .ref (ad 18)]) ++ List.replicate (3 - (lg_sl ([.ref (ad 5), .ref (ad 18)])).length) Slot.unset).toArray = ls at hl ⊢
  have hl : lv_has ls 3 [(0, .ref (ad 5)), (1, .ref (ad 18))] := hl
  obtain ⟨fz, hfz⟩ : ∃ z, F_sx_Standing_beLike_5_18 mu = z := ⟨_, rfl⟩
  have hF := hfz
  unfold F_sx_Standing_beLike_5_18 at hF
  refine lv_aload_n hx hb dX8_beLike_0 rfl (lv_at hl 1 rfl) ?_
  refine va_get (D := (dC, dI)) (ci := 8) (v := .ref (ad 40)) (C := RX8) (T := TX8) (N := 6) hx hb hts inG8 hown hK hP 18 (gX_18 cs ad mu) rfl 0 (by decide) (hts _ (List.mem_cons_of_mem _ mw_1_103)) (fun _ h9 => h9) rfl dX8_beLike_1 ?_
  refine lv_iconst (v := 0) hx hb dX8_beLike_4 (by decide) ?_
  refine lv_aload_n hx hb dX8_beLike_5 rfl (lv_at hl 0 rfl) ?_
  refine va_get (D := (dC, dI)) (ci := 8) (v := .ref (ad 46)) (C := RX8) (T := TX8) (N := 6) hx hb hts inG8 hown hK hP 5 (gX_5 cs ad mu) rfl 0 (by decide) (hts _ (List.mem_cons_of_mem _ mw_1_103)) (fun _ h9 => h9) rfl dX8_beLike_6 ?_
  refine lv_iconst (v := 0) hx hb dX8_beLike_9 (by decide) ?_
  refine lv_bipush (v := 7) hx hb dX8_beLike_10 (by decide) ?_
  refine va_copyi hx hb (hml.trans hl.1.symm) hown (hts _ (List.mem_cons_of_mem _ mw_3_225)) (hts _ (List.mem_cons_of_mem _ mw_3_4)) (hts _ (List.mem_cons_of_mem _ mw_3_3)) (hts _ (List.mem_cons_of_mem _ mw_1_15)) hK hP (wR_D mu hD) hS 40 46 0 0 (gX_40 cs ad mu) (gX_46 cs ad mu) rfl rfl rfl (by decide) (by decide) (by decide) (by have ua : ((0 : Int32).toNatClampNeg : Int) = 0 := rfl; have ub : ((0 : Int32).toNatClampNeg : Int) = 0 := rfl; have uc : ((7 : Int32).toNatClampNeg : Int) = 7 := rfl; omega) (by have ua : ((0 : Int32).toNatClampNeg : Int) = 0 := rfl; have ub : ((0 : Int32).toNatClampNeg : Int) = 0 := rfl; have uc : ((7 : Int32).toNatClampNeg : Int) = 7 := rfl; omega) (fun _ _ => rfl) (Nat.le_of_ble_eq_true rfl) (Nat.le_of_ble_eq_true rfl) dX8_beLike_12 (fun H locs hP _ hS => ?_)
  refine wr_gen (va_cpy (mu 40) (mu 46) (0 : Int32).toNatClampNeg (0 : Int32).toNatClampNeg (7 : Int32).toNatClampNeg) hP (rfl) (fun nu1 hn1 hP => ?_)
  have hF := mi_let hF hn1.symm
  have ok := okR_cp ok hn1 (cX_40_46  )
  have kp2 : (∀ k f : Nat, Nat.testBit 54 (gpX k f) = true → nu1 k f = mu k f) := kp_c 3 hn1 (fun _ => rfl) (by decide) (fun _ _ _ => rfl)
  refine lv_iconst (v := 0) hx hb dX8_beLike_15 (by decide) ?_
  refine lv_istore_n (lv' := [(2, .int 0), (0, .ref (ad 5)), (1, .ref (ad 18))]) hx hb dX8_beLike_16 rfl hl (by decide) rfl (fun ls hl => ?_)
  have loop17 : ∀ (n17 : Nat) (v2_17 : Int32) (nu17_ : Nat → Nat → Int32) (H : Heap) (locs : List Loc) (ls : Array Slot), (4 + 1 - v2_17.toInt).toNat < n17 → (0 ≤ v2_17.toInt ∧ v2_17.toInt ≤ 4) → okR loX hiX nu17_ → va_P (dC, dI) vwCl (wR 157 ad (EX cs ad) nu17_) H → (∀ k f : Nat, Nat.testBit 54 (gpX k f) = true → nu17_ k f = mu k f) → L_sx_Standing_beLike_5_18_17_0 n17 v2_17 nu17_ = fz → va_S (va_A (wR 157 ad (EX cs ad) mu) s.heap.size) s.heap H locs → lv_has ls 3 [(2, .int v2_17), (0, .ref (ad 5)), (1, .ref (ad 18))] → W p l e (headSpec (wU yX8_beLike cX8_beLike 3 none) ({ frames := 1, cells := 0, slots := 0, locals := 60 })).room s m ([.ref (ad 5), .ref (ad 18)] : List Value).toArray below meth c H locs 0 0 (MQ below (va_Qv (fun (xi : Nat → Nat → Int32) => xi = F_sx_Standing_beLike_5_18 mu ∧ okR loX hiX xi ∧ (True) ∧ (∀ k f : Nat, Nat.testBit 54 (gpX k f) = true → xi k f = mu k f)) (fun xi t => va_P (dC, dI) vwCl (wR 157 ad (EX cs ad) xi) t.heap) (va_A (wR 157 ad (EX cs ad) mu) s.heap.size)) ([.ref (ad 5), .ref (ad 18)] : List Value).toArray s 0 0 (va_A (wR 157 ad (EX cs ad) mu) s.heap.size)) (F0 m 17 ls []) := by
    intro n17
    induction n17 with
    | zero => intro v2_17 nu17_ H locs ls hm; exact absurd hm (Nat.not_lt_zero _)
    | succ n17 ih17 =>
      intro v2_17 nu17_ H locs ls hm_17 h_v2_17 ok hP kq17_0 hF hS hl
      rw [L_sx_Standing_beLike_5_18_17_0] at hF
      refine lv_iload_n hx hb dX8_beLike_17 rfl (lv_at hl 0 rfl) ?_
      refine lv_iconst (v := 4) hx hb dX8_beLike_18 (by decide) ?_
      refine lv_icmp_ge (tgt := 43) hx hb dX8_beLike_19 (by decide) (fun c_3 => ?_) (fun c_3 => ?_)
      · have hF := (if_pos c_3).symm.trans hF
        have c_3 : 4 ≤ v2_17.toInt := il_le c_3
        refine lv_aload_n hx hb dX8_beLike_43 rfl (lv_at hl 1 rfl) ?_
        refine lv_aload_n hx hb dX8_beLike_44 rfl (lv_at hl 2 rfl) ?_
        refine va_get (D := (dC, dI)) (ci := 8) (v := .int (nu17_ 18 2)) (C := RX8) (T := TX8) (N := 6) hx hb hts inG8 hown hK hP 18 (gX_18 cs ad nu17_) rfl 2 (by decide) (hts _ (List.mem_cons_of_mem _ mw_1_113)) (fun _ h9 => h9) rfl dX8_beLike_45 ?_
        refine lv_topi (fun y4 ey4 => ?_)
        have hF := mi_let hF ey4
        have by4 : y4.toInt = (nu17_ 18 2).toInt := congrArg Int32.toInt ey4
        refine va_put (D := (dC, dI)) (ci := 8) (v := .int y4) (ty := .int) (C := RX8) (T := TX8) (N := 6) hx hb hts inG8 tyX8 tyX8_ok nmX8 hown hK hP (wR_D nu17_ hD) hS 5 (gX_5 cs ad nu17_) rfl 2 (by decide) (hts _ (List.mem_cons_of_mem _ mw_1_113)) (fun _ h9 => h9) rfl (by decide +kernel) rfl rfl (Nat.le_of_ble_eq_true rfl) dX8_beLike_48 (fun H locs hP _ hS => ?_)
        simp only [List.set_cons_succ, List.set_cons_zero] at hP
        refine wr_gen (upd (nu17_ 5) 2 y4) hP ((hX_5_2 cs ad _ _)) (fun nu5 hn5 hP => ?_)
        have hF := mi_let hF hn5.symm
        have ok := tX_5_2 ok hn5
        have ez6 : y4 = nu5 18 2 := ey4.trans (congrFun (up_k hn5 (by decide)) 2).symm
        have kp7 : (∀ k f : Nat, Nat.testBit 54 (gpX k f) = true → nu5 k f = mu k f) := kp_f hn5 (by decide) kq17_0
        have ez8 : y4 = nu5 5 2 := up_v hn5
        refine lv_aload_n hx hb dX8_beLike_51 rfl (lv_at hl 1 rfl) ?_
        refine lv_aload_n hx hb dX8_beLike_52 rfl (lv_at hl 2 rfl) ?_
        refine va_get (D := (dC, dI)) (ci := 8) (v := .int (nu5 18 3)) (C := RX8) (T := TX8) (N := 6) hx hb hts inG8 hown hK hP 18 (gX_18 cs ad nu5) rfl 3 (by decide) (hts _ (List.mem_cons_of_mem _ mw_1_120)) (fun _ h9 => h9) rfl dX8_beLike_53 ?_
        refine lv_topi (fun y9 ey9 => ?_)
        have hF := mi_let hF ey9
        have by9 : y9.toInt = (nu5 18 3).toInt := congrArg Int32.toInt ey9
        refine va_put (D := (dC, dI)) (ci := 8) (v := .int y9) (ty := .int) (C := RX8) (T := TX8) (N := 6) hx hb hts inG8 tyX8 tyX8_ok nmX8 hown hK hP (wR_D nu5 hD) hS 5 (gX_5 cs ad nu5) rfl 3 (by decide) (hts _ (List.mem_cons_of_mem _ mw_1_120)) (fun _ h9 => h9) rfl (by decide +kernel) rfl rfl (Nat.le_of_ble_eq_true rfl) dX8_beLike_56 (fun H locs hP _ hS => ?_)
        simp only [List.set_cons_succ, List.set_cons_zero] at hP
        refine wr_gen (upd (nu5 5) 3 y9) hP ((hX_5_3 cs ad _ _)) (fun nu10 hn10 hP => ?_)
        have hF := mi_let hF hn10.symm
        have ok := tX_5_3 ok hn10
        have ez11 : y4 = nu10 18 2 := ez6.trans (congrFun (up_k hn10 (by decide)) 2).symm
        have ez12 : y4 = nu10 5 2 := ez8.trans (up_f hn10 (by decide)).symm
        have ez13 : y9 = nu10 18 3 := ey9.trans (congrFun (up_k hn10 (by decide)) 3).symm
        have kp14 : (∀ k f : Nat, Nat.testBit 54 (gpX k f) = true → nu10 k f = mu k f) := kp_f hn10 (by decide) kp7
        have ez15 : y9 = nu10 5 3 := up_v hn10
        refine lv_aload_n hx hb dX8_beLike_59 rfl (lv_at hl 1 rfl) ?_
        refine lv_aload_n hx hb dX8_beLike_60 rfl (lv_at hl 2 rfl) ?_
        refine va_get (D := (dC, dI)) (ci := 8) (v := .int (nu10 18 4)) (C := RX8) (T := TX8) (N := 6) hx hb hts inG8 hown hK hP 18 (gX_18 cs ad nu10) rfl 4 (by decide) (hts _ (List.mem_cons_of_mem _ mw_1_125)) (fun _ h9 => h9) rfl dX8_beLike_61 ?_
        refine lv_topi (fun y16 ey16 => ?_)
        have hF := mi_let hF ey16
        have by16 : y16.toInt = (nu10 18 4).toInt := congrArg Int32.toInt ey16
        have gy16 : 0 ≤ y16.toInt ∧ y16.toInt ≤ 4 := by rw [ey16]; exact rX_18_4 ok
        refine va_put (D := (dC, dI)) (ci := 8) (v := .int y16) (ty := .int) (C := RX8) (T := TX8) (N := 6) hx hb hts inG8 tyX8 tyX8_ok nmX8 hown hK hP (wR_D nu10 hD) hS 5 (gX_5 cs ad nu10) rfl 4 (by decide) (hts _ (List.mem_cons_of_mem _ mw_1_125)) (fun _ h9 => h9) rfl (by decide +kernel) rfl rfl (Nat.le_of_ble_eq_true rfl) dX8_beLike_64 (fun H locs hP _ hS => ?_)
        simp only [List.set_cons_succ, List.set_cons_zero] at hP
        refine wr_gen (upd (nu10 5) 4 y16) hP ((hX_5_4 cs ad _ _)) (fun nu17 hn17 hP => ?_)
        have hF := mi_let hF hn17.symm
        have ok := tX_5_4 ok hn17 (by omega)
        have ez18 : y4 = nu17 18 2 := ez11.trans (congrFun (up_k hn17 (by decide)) 2).symm
        have ez19 : y4 = nu17 5 2 := ez12.trans (up_f hn17 (by decide)).symm
        have ez20 : y9 = nu17 18 3 := ez13.trans (congrFun (up_k hn17 (by decide)) 3).symm
        have ez21 : y9 = nu17 5 3 := ez15.trans (up_f hn17 (by decide)).symm
        have ez22 : y16 = nu17 18 4 := ey16.trans (congrFun (up_k hn17 (by decide)) 4).symm
        have kp23 : (∀ k f : Nat, Nat.testBit 54 (gpX k f) = true → nu17 k f = mu k f) := kp_f hn17 (by decide) kp14
        have ez24 : y16 = nu17 5 4 := up_v hn17
        exact W.vret hx hb hr (fun t ht hW => ⟨⟨nu17, rfl, ⟨hF.trans hfz.symm, ok, trivial, kp23⟩, by first | (subst ht; exact hP) | (rw [ht]; exact hP) | (show va_P (dC, dI) vwCl (wR 157 ad (EX cs ad) nu17) t.heap; rw [ht]; exact hP)⟩, hS.F ht⟩) hS.2.2 dX8_beLike_67
      · have hF := (if_neg c_3).symm.trans hF
        have c_3 : v2_17.toInt < 4 := il_nle c_3
        refine lv_aload_n hx hb dX8_beLike_22 rfl (lv_at hl 1 rfl) ?_
        refine va_get (D := (dC, dI)) (ci := 8) (v := .ref (ad 47)) (C := RX8) (T := TX8) (N := 6) hx hb hts inG8 hown hK hP 5 (gX_5 cs ad nu17_) rfl 1 (by decide) (hts _ (List.mem_cons_of_mem _ mw_1_109)) (fun _ h9 => h9) rfl dX8_beLike_23 ?_
        refine lv_iload_n hx hb dX8_beLike_26 rfl (lv_at hl 0 rfl) ?_
        have hx25 : 0 ≤ v2_17.toInt ∧ v2_17.toInt < ((4 : Nat) : Int) := ⟨by omega, by omega⟩
        refine va_aldq hx hb hK hP 47 5 (gX_47 cs ad nu17_) rfl (show vp_in v2_17 4 from vi_of hx25.1 hx25.2) dX8_beLike_27 ?_
        have hk25 : 61 ≤ (61 + v2_17.toNatClampNeg) ∧ (61 + v2_17.toNatClampNeg) < 65 := ix_of hx25
        have hk25 : 61 ≤ (61 + v2_17.toNatClampNeg) ∧ (61 + v2_17.toNatClampNeg) < 77 := ⟨Nat.le_trans (by decide) hk25.1, Nat.lt_of_lt_of_le hk25.2 (by decide)⟩
        refine lq_v (.ref (ad (61 + v2_17.toNatClampNeg))) rfl ?_
        refine lv_aload_n hx hb dX8_beLike_28 rfl (lv_at hl 2 rfl) ?_
        refine va_get (D := (dC, dI)) (ci := 8) (v := .ref (ad 43)) (C := RX8) (T := TX8) (N := 6) hx hb hts inG8 hown hK hP 18 (gX_18 cs ad nu17_) rfl 1 (by decide) (hts _ (List.mem_cons_of_mem _ mw_1_109)) (fun _ h9 => h9) rfl dX8_beLike_29 ?_
        refine lv_iload_n hx hb dX8_beLike_32 rfl (lv_at hl 0 rfl) ?_
        have hx26 : 0 ≤ v2_17.toInt ∧ v2_17.toInt < ((4 : Nat) : Int) := ⟨by omega, by omega⟩
        refine va_aldq hx hb hK hP 43 5 (gX_43 cs ad nu17_) rfl (show vp_in v2_17 4 from vi_of hx26.1 hx26.2) dX8_beLike_33 ?_
        have hk26 : 65 ≤ (65 + v2_17.toNatClampNeg) ∧ (65 + v2_17.toNatClampNeg) < 69 := ix_of hx26
        have hk26 : 61 ≤ (65 + v2_17.toNatClampNeg) ∧ (65 + v2_17.toNatClampNeg) < 77 := ⟨Nat.le_trans (by decide) hk26.1, Nat.lt_of_lt_of_le hk26.2 (by decide)⟩
        refine lq_v (.ref (ad (65 + v2_17.toNatClampNeg))) rfl ?_
        have hFc := fr_all (wR_D nu17_ hD) hS hA
        refine va_callv (va_runV (As := [.ref (ad (65 + v2_17.toNatClampNeg))]) (rest := []) ⟨hx, hb, hml, hown, hts⟩ (sx_Letter_beLike l dC dI cs ad nu17_ ok H hP ((wR_D nu17_ hD).weaken (fun _ _ _ _ => trivial)) (61 + v2_17.toNatClampNeg) hk25.1 hk25.2 (65 + v2_17.toNatClampNeg) hk26.1 hk26.2) (cwV 1 hts (wU_V mw_3_229 mw_3_226 mw_3_227 mw_3_228 mw_1_4) rfl rfl rfl (by decide +kernel) ⟨Nat.le_of_ble_eq_true rfl, Nat.le_of_ble_eq_true rfl⟩) ⟨sz_c, va_recv hK hP (ci := 3) (q0 := (61 + v2_17.toNatClampNeg)) rfl (gX_letter cs ad nu17_ (61 + v2_17.toNatClampNeg) hk25.1 hk25.2), sz_m hK hz⟩ rfl rfl hl.1 rfl (lv_room (Nat.le_of_ble_eq_true rfl)) dX8_beLike_34 ⟨Nat.zero_le _, Nat.zero_le _⟩) hS (fun q _ h => hFc q h) hFc (fun xi27 t H27 locs ht hvm hw27 hB hz1 hk1 hS => ?_)
        have hP : va_P (dC, dI) vwCl (wR 157 ad (EX cs ad) xi27) H27 := by rw [← ht]; exact hB
        obtain ⟨hfe27, ok, hw27, hkp27_0⟩ := hw27
        have hF := mi_let hF hfe27
        have kp28 : (∀ k f : Nat, Nat.testBit 54 (gpX k f) = true → xi27 k f = mu k f) := kp_t hkp27_0 (by decide) kq17_0
        refine lv_iinc (v := (v2_17 + 1)) (lv' := [(2, .int (v2_17 + 1)), (0, .ref (ad 5)), (1, .ref (ad 18))]) hx hb dX8_beLike_37 hl (k := 0) rfl rfl (by decide) rfl (fun ls hl => ?_)
        refine loc_gen (P := fun w9 => lv_has ls 3 [(2, .int w9), (0, .ref (ad 5)), (1, .ref (ad 18))]) (v2_17 + 1) hl (fun w29 hw29 hl => ?_)
        have hl : lv_has ls 3 [(2, .int w29), (0, .ref (ad 5)), (1, .ref (ad 18))] := hl
        have hF := mi_let hF hw29.symm
        have aw29 : w29.toInt = v2_17.toInt + 1 := by rw [← hw29]; first | exact va1 (Int.lt_of_le_of_lt h_v2_17.2 (by decide)) | exact va1 (by omega)
        refine lv_goto (tgt := 17) hx hb dX8_beLike_40 (by decide) ?_
        exact ih17 (w29) xi27 _ _ _ (by first | exact ms_up hm_17 aw29 h_v2_17.2 | exact ms_lt hm_17 (by omega) (by omega) | omega) (by first | exact rg_up aw29 h_v2_17 (by omega) | omega)  ok hP  kp28 hF hS (lv_sub hl [0, 1, 2] rfl)
  exact loop17 7 (0) nu1 _ _ _ (by have h80 : (0 : Int32).toInt = 0 := rfl; omega) (by have h80 : (0 : Int32).toInt = 0 := rfl; exact ⟨by omega, by omega⟩)  ok hP  kp2 hF hS hl
set_option maxHeartbeats 4000000 in
set_option maxRecDepth 100000 in
/-- sx_Standing_beLike_5_19 -/
theorem sx_Standing_beLike_5_19 (l : Launch) (dC : Nat → ClassId) (dI : Nat → Nat → Nat) (cs : Nat → ClassId) (ad : Nat → Nat) (mu : Nat → Nat → Int32) (ok : okR loX hiX mu) (H : Heap) (hP : va_P (dC, dI) vwCl (wR 157 ad (EX cs ad) mu) H) (hD0 : va_D (fun _ => True) (wR 157 ad (EX cs ad) mu)) : Met l yX8_beLike (wU yX8_beLike cX8_beLike 3 none) ({ frames := 1, cells := 0, slots := 0, locals := 60 }) (va_Pc [.ref (ad 5), .ref (ad 19)] (sz_P (dC, dI) vwCl (tyW cs) H)) (va_Qv (fun (xi : Nat → Nat → Int32) => xi = F_sx_Standing_beLike_5_19 mu ∧ okR loX hiX xi ∧ (True) ∧ (∀ k f : Nat, Nat.testBit 54 (gpX k f) = true → xi k f = mu k f)) (fun xi t => va_P (dC, dI) vwCl (wR 157 ad (EX cs ad) xi) t.heap) (va_A (wR 157 ad (EX cs ad) mu) H.size)) 0 0 (va_A (wR 157 ad (EX cs ad) mu) H.size) := by
  refine Met.ofW (cc := cX8_beLike) (maxL := 3) (ret := none) (by decide) rfl ?_
  intro p e s m args below meth c s₁ B hml hv
  obtain ⟨rfl, hh, hK, hz⟩ := hv
  have hx := B.exec
  have hb := B.bytes
  have hr := B.returns
  have hts := atoms_spec (ws := (wU yX8_beLike cX8_beLike 3 none)) B.pre
  have hown : s.vm.findClass RX8 = some m.cls := findClass_of_methodNamed B.named
  have hlocks := B.notSynchronized
  subst hh
  have hD := hD0.self (sz := s.heap.size)
  have hA : ∀ q : Nat, s.heap.size ≤ q → (va_A (wR 157 ad (EX cs ad) mu) s.heap.size) q := fun q h => Or.inr h
  have hS : va_S (va_A (wR 157 ad (EX cs ad) mu) s.heap.size) s.heap s.heap [] := va_S.rf
  have hl := lv_entry ([.ref (ad 5), .ref (ad 19)]) (n := 3) (Nat.le_of_ble_eq_true rfl)
  rw [lg_entry_eq]
  generalize (lg_sl ([.ref (ad 5), .ref (ad 19)]) ++ List.replicate (3 - (lg_sl ([.ref (ad 5), .ref (ad 19)])).length) Slot.unset).toArray = ls at hl ⊢
  have hl : lv_has ls 3 [(0, .ref (ad 5)), (1, .ref (ad 19))] := hl
  obtain ⟨fz, hfz⟩ : ∃ z, F_sx_Standing_beLike_5_19 mu = z := ⟨_, rfl⟩
  have hF := hfz
  unfold F_sx_Standing_beLike_5_19 at hF
  refine lv_aload_n hx hb dX8_beLike_0 rfl (lv_at hl 1 rfl) ?_
  refine va_get (D := (dC, dI)) (ci := 8) (v := .ref (ad 41)) (C := RX8) (T := TX8) (N := 6) hx hb hts inG8 hown hK hP 19 (gX_19 cs ad mu) rfl 0 (by decide) (hts _ (List.mem_cons_of_mem _ mw_1_103)) (fun _ h9 => h9) rfl dX8_beLike_1 ?_
  refine lv_iconst (v := 0) hx hb dX8_beLike_4 (by decide) ?_
  refine lv_aload_n hx hb dX8_beLike_5 rfl (lv_at hl 0 rfl) ?_
  refine va_get (D := (dC, dI)) (ci := 8) (v := .ref (ad 46)) (C := RX8) (T := TX8) (N := 6) hx hb hts inG8 hown hK hP 5 (gX_5 cs ad mu) rfl 0 (by decide) (hts _ (List.mem_cons_of_mem _ mw_1_103)) (fun _ h9 => h9) rfl dX8_beLike_6 ?_
  refine lv_iconst (v := 0) hx hb dX8_beLike_9 (by decide) ?_
  refine lv_bipush (v := 7) hx hb dX8_beLike_10 (by decide) ?_
  refine va_copyi hx hb (hml.trans hl.1.symm) hown (hts _ (List.mem_cons_of_mem _ mw_3_225)) (hts _ (List.mem_cons_of_mem _ mw_3_4)) (hts _ (List.mem_cons_of_mem _ mw_3_3)) (hts _ (List.mem_cons_of_mem _ mw_1_15)) hK hP (wR_D mu hD) hS 41 46 0 0 (gX_41 cs ad mu) (gX_46 cs ad mu) rfl rfl rfl (by decide) (by decide) (by decide) (by have ua : ((0 : Int32).toNatClampNeg : Int) = 0 := rfl; have ub : ((0 : Int32).toNatClampNeg : Int) = 0 := rfl; have uc : ((7 : Int32).toNatClampNeg : Int) = 7 := rfl; omega) (by have ua : ((0 : Int32).toNatClampNeg : Int) = 0 := rfl; have ub : ((0 : Int32).toNatClampNeg : Int) = 0 := rfl; have uc : ((7 : Int32).toNatClampNeg : Int) = 7 := rfl; omega) (fun _ _ => rfl) (Nat.le_of_ble_eq_true rfl) (Nat.le_of_ble_eq_true rfl) dX8_beLike_12 (fun H locs hP _ hS => ?_)
  refine wr_gen (va_cpy (mu 41) (mu 46) (0 : Int32).toNatClampNeg (0 : Int32).toNatClampNeg (7 : Int32).toNatClampNeg) hP (rfl) (fun nu1 hn1 hP => ?_)
  have hF := mi_let hF hn1.symm
  have ok := okR_cp ok hn1 (cX_41_46  )
  have kp2 : (∀ k f : Nat, Nat.testBit 54 (gpX k f) = true → nu1 k f = mu k f) := kp_c 3 hn1 (fun _ => rfl) (by decide) (fun _ _ _ => rfl)
  refine lv_iconst (v := 0) hx hb dX8_beLike_15 (by decide) ?_
  refine lv_istore_n (lv' := [(2, .int 0), (0, .ref (ad 5)), (1, .ref (ad 19))]) hx hb dX8_beLike_16 rfl hl (by decide) rfl (fun ls hl => ?_)
  have loop17 : ∀ (n17 : Nat) (v2_17 : Int32) (nu17_ : Nat → Nat → Int32) (H : Heap) (locs : List Loc) (ls : Array Slot), (4 + 1 - v2_17.toInt).toNat < n17 → (0 ≤ v2_17.toInt ∧ v2_17.toInt ≤ 4) → okR loX hiX nu17_ → va_P (dC, dI) vwCl (wR 157 ad (EX cs ad) nu17_) H → (∀ k f : Nat, Nat.testBit 54 (gpX k f) = true → nu17_ k f = mu k f) → L_sx_Standing_beLike_5_19_17_0 n17 v2_17 nu17_ = fz → va_S (va_A (wR 157 ad (EX cs ad) mu) s.heap.size) s.heap H locs → lv_has ls 3 [(2, .int v2_17), (0, .ref (ad 5)), (1, .ref (ad 19))] → W p l e (headSpec (wU yX8_beLike cX8_beLike 3 none) ({ frames := 1, cells := 0, slots := 0, locals := 60 })).room s m ([.ref (ad 5), .ref (ad 19)] : List Value).toArray below meth c H locs 0 0 (MQ below (va_Qv (fun (xi : Nat → Nat → Int32) => xi = F_sx_Standing_beLike_5_19 mu ∧ okR loX hiX xi ∧ (True) ∧ (∀ k f : Nat, Nat.testBit 54 (gpX k f) = true → xi k f = mu k f)) (fun xi t => va_P (dC, dI) vwCl (wR 157 ad (EX cs ad) xi) t.heap) (va_A (wR 157 ad (EX cs ad) mu) s.heap.size)) ([.ref (ad 5), .ref (ad 19)] : List Value).toArray s 0 0 (va_A (wR 157 ad (EX cs ad) mu) s.heap.size)) (F0 m 17 ls []) := by
    intro n17
    induction n17 with
    | zero => intro v2_17 nu17_ H locs ls hm; exact absurd hm (Nat.not_lt_zero _)
    | succ n17 ih17 =>
      intro v2_17 nu17_ H locs ls hm_17 h_v2_17 ok hP kq17_0 hF hS hl
      rw [L_sx_Standing_beLike_5_19_17_0] at hF
      refine lv_iload_n hx hb dX8_beLike_17 rfl (lv_at hl 0 rfl) ?_
      refine lv_iconst (v := 4) hx hb dX8_beLike_18 (by decide) ?_
      refine lv_icmp_ge (tgt := 43) hx hb dX8_beLike_19 (by decide) (fun c_3 => ?_) (fun c_3 => ?_)
      · have hF := (if_pos c_3).symm.trans hF
        have c_3 : 4 ≤ v2_17.toInt := il_le c_3
        refine lv_aload_n hx hb dX8_beLike_43 rfl (lv_at hl 1 rfl) ?_
        refine lv_aload_n hx hb dX8_beLike_44 rfl (lv_at hl 2 rfl) ?_
        refine va_get (D := (dC, dI)) (ci := 8) (v := .int (nu17_ 19 2)) (C := RX8) (T := TX8) (N := 6) hx hb hts inG8 hown hK hP 19 (gX_19 cs ad nu17_) rfl 2 (by decide) (hts _ (List.mem_cons_of_mem _ mw_1_113)) (fun _ h9 => h9) rfl dX8_beLike_45 ?_
        refine lv_topi (fun y4 ey4 => ?_)
        have hF := mi_let hF ey4
        have by4 : y4.toInt = (nu17_ 19 2).toInt := congrArg Int32.toInt ey4
        refine va_put (D := (dC, dI)) (ci := 8) (v := .int y4) (ty := .int) (C := RX8) (T := TX8) (N := 6) hx hb hts inG8 tyX8 tyX8_ok nmX8 hown hK hP (wR_D nu17_ hD) hS 5 (gX_5 cs ad nu17_) rfl 2 (by decide) (hts _ (List.mem_cons_of_mem _ mw_1_113)) (fun _ h9 => h9) rfl (by decide +kernel) rfl rfl (Nat.le_of_ble_eq_true rfl) dX8_beLike_48 (fun H locs hP _ hS => ?_)
        simp only [List.set_cons_succ, List.set_cons_zero] at hP
        refine wr_gen (upd (nu17_ 5) 2 y4) hP ((hX_5_2 cs ad _ _)) (fun nu5 hn5 hP => ?_)
        have hF := mi_let hF hn5.symm
        have ok := tX_5_2 ok hn5
        have ez6 : y4 = nu5 19 2 := ey4.trans (congrFun (up_k hn5 (by decide)) 2).symm
        have kp7 : (∀ k f : Nat, Nat.testBit 54 (gpX k f) = true → nu5 k f = mu k f) := kp_f hn5 (by decide) kq17_0
        have ez8 : y4 = nu5 5 2 := up_v hn5
        refine lv_aload_n hx hb dX8_beLike_51 rfl (lv_at hl 1 rfl) ?_
        refine lv_aload_n hx hb dX8_beLike_52 rfl (lv_at hl 2 rfl) ?_
        refine va_get (D := (dC, dI)) (ci := 8) (v := .int (nu5 19 3)) (C := RX8) (T := TX8) (N := 6) hx hb hts inG8 hown hK hP 19 (gX_19 cs ad nu5) rfl 3 (by decide) (hts _ (List.mem_cons_of_mem _ mw_1_120)) (fun _ h9 => h9) rfl dX8_beLike_53 ?_
        refine lv_topi (fun y9 ey9 => ?_)
        have hF := mi_let hF ey9
        have by9 : y9.toInt = (nu5 19 3).toInt := congrArg Int32.toInt ey9
        refine va_put (D := (dC, dI)) (ci := 8) (v := .int y9) (ty := .int) (C := RX8) (T := TX8) (N := 6) hx hb hts inG8 tyX8 tyX8_ok nmX8 hown hK hP (wR_D nu5 hD) hS 5 (gX_5 cs ad nu5) rfl 3 (by decide) (hts _ (List.mem_cons_of_mem _ mw_1_120)) (fun _ h9 => h9) rfl (by decide +kernel) rfl rfl (Nat.le_of_ble_eq_true rfl) dX8_beLike_56 (fun H locs hP _ hS => ?_)
        simp only [List.set_cons_succ, List.set_cons_zero] at hP
        refine wr_gen (upd (nu5 5) 3 y9) hP ((hX_5_3 cs ad _ _)) (fun nu10 hn10 hP => ?_)
        have hF := mi_let hF hn10.symm
        have ok := tX_5_3 ok hn10
        have ez11 : y4 = nu10 19 2 := ez6.trans (congrFun (up_k hn10 (by decide)) 2).symm
        have ez12 : y4 = nu10 5 2 := ez8.trans (up_f hn10 (by decide)).symm
        have ez13 : y9 = nu10 19 3 := ey9.trans (congrFun (up_k hn10 (by decide)) 3).symm
        have kp14 : (∀ k f : Nat, Nat.testBit 54 (gpX k f) = true → nu10 k f = mu k f) := kp_f hn10 (by decide) kp7
        have ez15 : y9 = nu10 5 3 := up_v hn10
        refine lv_aload_n hx hb dX8_beLike_59 rfl (lv_at hl 1 rfl) ?_
        refine lv_aload_n hx hb dX8_beLike_60 rfl (lv_at hl 2 rfl) ?_
        refine va_get (D := (dC, dI)) (ci := 8) (v := .int (nu10 19 4)) (C := RX8) (T := TX8) (N := 6) hx hb hts inG8 hown hK hP 19 (gX_19 cs ad nu10) rfl 4 (by decide) (hts _ (List.mem_cons_of_mem _ mw_1_125)) (fun _ h9 => h9) rfl dX8_beLike_61 ?_
        refine lv_topi (fun y16 ey16 => ?_)
        have hF := mi_let hF ey16
        have by16 : y16.toInt = (nu10 19 4).toInt := congrArg Int32.toInt ey16
        have gy16 : 0 ≤ y16.toInt ∧ y16.toInt ≤ 4 := by rw [ey16]; exact rX_19_4 ok
        refine va_put (D := (dC, dI)) (ci := 8) (v := .int y16) (ty := .int) (C := RX8) (T := TX8) (N := 6) hx hb hts inG8 tyX8 tyX8_ok nmX8 hown hK hP (wR_D nu10 hD) hS 5 (gX_5 cs ad nu10) rfl 4 (by decide) (hts _ (List.mem_cons_of_mem _ mw_1_125)) (fun _ h9 => h9) rfl (by decide +kernel) rfl rfl (Nat.le_of_ble_eq_true rfl) dX8_beLike_64 (fun H locs hP _ hS => ?_)
        simp only [List.set_cons_succ, List.set_cons_zero] at hP
        refine wr_gen (upd (nu10 5) 4 y16) hP ((hX_5_4 cs ad _ _)) (fun nu17 hn17 hP => ?_)
        have hF := mi_let hF hn17.symm
        have ok := tX_5_4 ok hn17 (by omega)
        have ez18 : y4 = nu17 19 2 := ez11.trans (congrFun (up_k hn17 (by decide)) 2).symm
        have ez19 : y4 = nu17 5 2 := ez12.trans (up_f hn17 (by decide)).symm
        have ez20 : y9 = nu17 19 3 := ez13.trans (congrFun (up_k hn17 (by decide)) 3).symm
        have ez21 : y9 = nu17 5 3 := ez15.trans (up_f hn17 (by decide)).symm
        have ez22 : y16 = nu17 19 4 := ey16.trans (congrFun (up_k hn17 (by decide)) 4).symm
        have kp23 : (∀ k f : Nat, Nat.testBit 54 (gpX k f) = true → nu17 k f = mu k f) := kp_f hn17 (by decide) kp14
        have ez24 : y16 = nu17 5 4 := up_v hn17
        exact W.vret hx hb hr (fun t ht hW => ⟨⟨nu17, rfl, ⟨hF.trans hfz.symm, ok, trivial, kp23⟩, by first | (subst ht; exact hP) | (rw [ht]; exact hP) | (show va_P (dC, dI) vwCl (wR 157 ad (EX cs ad) nu17) t.heap; rw [ht]; exact hP)⟩, hS.F ht⟩) hS.2.2 dX8_beLike_67
      · have hF := (if_neg c_3).symm.trans hF
        have c_3 : v2_17.toInt < 4 := il_nle c_3
        refine lv_aload_n hx hb dX8_beLike_22 rfl (lv_at hl 1 rfl) ?_
        refine va_get (D := (dC, dI)) (ci := 8) (v := .ref (ad 47)) (C := RX8) (T := TX8) (N := 6) hx hb hts inG8 hown hK hP 5 (gX_5 cs ad nu17_) rfl 1 (by decide) (hts _ (List.mem_cons_of_mem _ mw_1_109)) (fun _ h9 => h9) rfl dX8_beLike_23 ?_
        refine lv_iload_n hx hb dX8_beLike_26 rfl (lv_at hl 0 rfl) ?_
        have hx25 : 0 ≤ v2_17.toInt ∧ v2_17.toInt < ((4 : Nat) : Int) := ⟨by omega, by omega⟩
        refine va_aldq hx hb hK hP 47 5 (gX_47 cs ad nu17_) rfl (show vp_in v2_17 4 from vi_of hx25.1 hx25.2) dX8_beLike_27 ?_
        have hk25 : 61 ≤ (61 + v2_17.toNatClampNeg) ∧ (61 + v2_17.toNatClampNeg) < 65 := ix_of hx25
        have hk25 : 61 ≤ (61 + v2_17.toNatClampNeg) ∧ (61 + v2_17.toNatClampNeg) < 77 := ⟨Nat.le_trans (by decide) hk25.1, Nat.lt_of_lt_of_le hk25.2 (by decide)⟩
        refine lq_v (.ref (ad (61 + v2_17.toNatClampNeg))) rfl ?_
        refine lv_aload_n hx hb dX8_beLike_28 rfl (lv_at hl 2 rfl) ?_
        refine va_get (D := (dC, dI)) (ci := 8) (v := .ref (ad 44)) (C := RX8) (T := TX8) (N := 6) hx hb hts inG8 hown hK hP 19 (gX_19 cs ad nu17_) rfl 1 (by decide) (hts _ (List.mem_cons_of_mem _ mw_1_109)) (fun _ h9 => h9) rfl dX8_beLike_29 ?_
        refine lv_iload_n hx hb dX8_beLike_32 rfl (lv_at hl 0 rfl) ?_
        have hx26 : 0 ≤ v2_17.toInt ∧ v2_17.toInt < ((4 : Nat) : Int) := ⟨by omega, by omega⟩
        refine va_aldq hx hb hK hP 44 5 (gX_44 cs ad nu17_) rfl (show vp_in v2_17 4 from vi_of hx26.1 hx26.2) dX8_beLike_33 ?_
        have hk26 : 69 ≤ (69 + v2_17.toNatClampNeg) ∧ (69 + v2_17.toNatClampNeg) < 73 := ix_of hx26
        have hk26 : 61 ≤ (69 + v2_17.toNatClampNeg) ∧ (69 + v2_17.toNatClampNeg) < 77 := ⟨Nat.le_trans (by decide) hk26.1, Nat.lt_of_lt_of_le hk26.2 (by decide)⟩
        refine lq_v (.ref (ad (69 + v2_17.toNatClampNeg))) rfl ?_
        have hFc := fr_all (wR_D nu17_ hD) hS hA
        refine va_callv (va_runV (As := [.ref (ad (69 + v2_17.toNatClampNeg))]) (rest := []) ⟨hx, hb, hml, hown, hts⟩ (sx_Letter_beLike l dC dI cs ad nu17_ ok H hP ((wR_D nu17_ hD).weaken (fun _ _ _ _ => trivial)) (61 + v2_17.toNatClampNeg) hk25.1 hk25.2 (69 + v2_17.toNatClampNeg) hk26.1 hk26.2) (cwV 1 hts (wU_V mw_3_229 mw_3_226 mw_3_227 mw_3_228 mw_1_4) rfl rfl rfl (by decide +kernel) ⟨Nat.le_of_ble_eq_true rfl, Nat.le_of_ble_eq_true rfl⟩) ⟨sz_c, va_recv hK hP (ci := 3) (q0 := (61 + v2_17.toNatClampNeg)) rfl (gX_letter cs ad nu17_ (61 + v2_17.toNatClampNeg) hk25.1 hk25.2), sz_m hK hz⟩ rfl rfl hl.1 rfl (lv_room (Nat.le_of_ble_eq_true rfl)) dX8_beLike_34 ⟨Nat.zero_le _, Nat.zero_le _⟩) hS (fun q _ h => hFc q h) hFc (fun xi27 t H27 locs ht hvm hw27 hB hz1 hk1 hS => ?_)
        have hP : va_P (dC, dI) vwCl (wR 157 ad (EX cs ad) xi27) H27 := by rw [← ht]; exact hB
        obtain ⟨hfe27, ok, hw27, hkp27_0⟩ := hw27
        have hF := mi_let hF hfe27
        have kp28 : (∀ k f : Nat, Nat.testBit 54 (gpX k f) = true → xi27 k f = mu k f) := kp_t hkp27_0 (by decide) kq17_0
        refine lv_iinc (v := (v2_17 + 1)) (lv' := [(2, .int (v2_17 + 1)), (0, .ref (ad 5)), (1, .ref (ad 19))]) hx hb dX8_beLike_37 hl (k := 0) rfl rfl (by decide) rfl (fun ls hl => ?_)
        refine loc_gen (P := fun w9 => lv_has ls 3 [(2, .int w9), (0, .ref (ad 5)), (1, .ref (ad 19))]) (v2_17 + 1) hl (fun w29 hw29 hl => ?_)
        have hl : lv_has ls 3 [(2, .int w29), (0, .ref (ad 5)), (1, .ref (ad 19))] := hl
        have hF := mi_let hF hw29.symm
        have aw29 : w29.toInt = v2_17.toInt + 1 := by rw [← hw29]; first | exact va1 (Int.lt_of_le_of_lt h_v2_17.2 (by decide)) | exact va1 (by omega)
        refine lv_goto (tgt := 17) hx hb dX8_beLike_40 (by decide) ?_
        exact ih17 (w29) xi27 _ _ _ (by first | exact ms_up hm_17 aw29 h_v2_17.2 | exact ms_lt hm_17 (by omega) (by omega) | omega) (by first | exact rg_up aw29 h_v2_17 (by omega) | omega)  ok hP  kp28 hF hS (lv_sub hl [0, 1, 2] rfl)
  exact loop17 7 (0) nu1 _ _ _ (by have h80 : (0 : Int32).toInt = 0 := rfl; omega) (by have h80 : (0 : Int32).toInt = 0 := rfl; exact ⟨by omega, by omega⟩)  ok hP  kp2 hF hS hl
set_option maxHeartbeats 4000000 in
set_option maxRecDepth 100000 in
/-- sx_Standing_beLike_5_20 -/
theorem sx_Standing_beLike_5_20 (l : Launch) (dC : Nat → ClassId) (dI : Nat → Nat → Nat) (cs : Nat → ClassId) (ad : Nat → Nat) (mu : Nat → Nat → Int32) (ok : okR loX hiX mu) (H : Heap) (hP : va_P (dC, dI) vwCl (wR 157 ad (EX cs ad) mu) H) (hD0 : va_D (fun _ => True) (wR 157 ad (EX cs ad) mu)) : Met l yX8_beLike (wU yX8_beLike cX8_beLike 3 none) ({ frames := 1, cells := 0, slots := 0, locals := 60 }) (va_Pc [.ref (ad 5), .ref (ad 20)] (sz_P (dC, dI) vwCl (tyW cs) H)) (va_Qv (fun (xi : Nat → Nat → Int32) => xi = F_sx_Standing_beLike_5_20 mu ∧ okR loX hiX xi ∧ (True) ∧ (∀ k f : Nat, Nat.testBit 54 (gpX k f) = true → xi k f = mu k f)) (fun xi t => va_P (dC, dI) vwCl (wR 157 ad (EX cs ad) xi) t.heap) (va_A (wR 157 ad (EX cs ad) mu) H.size)) 0 0 (va_A (wR 157 ad (EX cs ad) mu) H.size) := by
  refine Met.ofW (cc := cX8_beLike) (maxL := 3) (ret := none) (by decide) rfl ?_
  intro p e s m args below meth c s₁ B hml hv
  obtain ⟨rfl, hh, hK, hz⟩ := hv
  have hx := B.exec
  have hb := B.bytes
  have hr := B.returns
  have hts := atoms_spec (ws := (wU yX8_beLike cX8_beLike 3 none)) B.pre
  have hown : s.vm.findClass RX8 = some m.cls := findClass_of_methodNamed B.named
  have hlocks := B.notSynchronized
  subst hh
  have hD := hD0.self (sz := s.heap.size)
  have hA : ∀ q : Nat, s.heap.size ≤ q → (va_A (wR 157 ad (EX cs ad) mu) s.heap.size) q := fun q h => Or.inr h
  have hS : va_S (va_A (wR 157 ad (EX cs ad) mu) s.heap.size) s.heap s.heap [] := va_S.rf
  have hl := lv_entry ([.ref (ad 5), .ref (ad 20)]) (n := 3) (Nat.le_of_ble_eq_true rfl)
  rw [lg_entry_eq]
  generalize (lg_sl ([.ref (ad 5), .ref (ad 20)]) ++ List.replicate (3 - (lg_sl ([.ref (ad 5), .ref (ad 20)])).length) Slot.unset).toArray = ls at hl ⊢
  have hl : lv_has ls 3 [(0, .ref (ad 5)), (1, .ref (ad 20))] := hl
  obtain ⟨fz, hfz⟩ : ∃ z, F_sx_Standing_beLike_5_20 mu = z := ⟨_, rfl⟩
  have hF := hfz
  unfold F_sx_Standing_beLike_5_20 at hF
  refine lv_aload_n hx hb dX8_beLike_0 rfl (lv_at hl 1 rfl) ?_
  refine va_get (D := (dC, dI)) (ci := 8) (v := .ref (ad 42)) (C := RX8) (T := TX8) (N := 6) hx hb hts inG8 hown hK hP 20 (gX_20 cs ad mu) rfl 0 (by decide) (hts _ (List.mem_cons_of_mem _ mw_1_103)) (fun _ h9 => h9) rfl dX8_beLike_1 ?_
  refine lv_iconst (v := 0) hx hb dX8_beLike_4 (by decide) ?_
  refine lv_aload_n hx hb dX8_beLike_5 rfl (lv_at hl 0 rfl) ?_
  refine va_get (D := (dC, dI)) (ci := 8) (v := .ref (ad 46)) (C := RX8) (T := TX8) (N := 6) hx hb hts inG8 hown hK hP 5 (gX_5 cs ad mu) rfl 0 (by decide) (hts _ (List.mem_cons_of_mem _ mw_1_103)) (fun _ h9 => h9) rfl dX8_beLike_6 ?_
  refine lv_iconst (v := 0) hx hb dX8_beLike_9 (by decide) ?_
  refine lv_bipush (v := 7) hx hb dX8_beLike_10 (by decide) ?_
  refine va_copyi hx hb (hml.trans hl.1.symm) hown (hts _ (List.mem_cons_of_mem _ mw_3_225)) (hts _ (List.mem_cons_of_mem _ mw_3_4)) (hts _ (List.mem_cons_of_mem _ mw_3_3)) (hts _ (List.mem_cons_of_mem _ mw_1_15)) hK hP (wR_D mu hD) hS 42 46 0 0 (gX_42 cs ad mu) (gX_46 cs ad mu) rfl rfl rfl (by decide) (by decide) (by decide) (by have ua : ((0 : Int32).toNatClampNeg : Int) = 0 := rfl; have ub : ((0 : Int32).toNatClampNeg : Int) = 0 := rfl; have uc : ((7 : Int32).toNatClampNeg : Int) = 7 := rfl; omega) (by have ua : ((0 : Int32).toNatClampNeg : Int) = 0 := rfl; have ub : ((0 : Int32).toNatClampNeg : Int) = 0 := rfl; have uc : ((7 : Int32).toNatClampNeg : Int) = 7 := rfl; omega) (fun _ _ => rfl) (Nat.le_of_ble_eq_true rfl) (Nat.le_of_ble_eq_true rfl) dX8_beLike_12 (fun H locs hP _ hS => ?_)
  refine wr_gen (va_cpy (mu 42) (mu 46) (0 : Int32).toNatClampNeg (0 : Int32).toNatClampNeg (7 : Int32).toNatClampNeg) hP (rfl) (fun nu1 hn1 hP => ?_)
  have hF := mi_let hF hn1.symm
  have ok := okR_cp ok hn1 (cX_42_46  )
  have kp2 : (∀ k f : Nat, Nat.testBit 54 (gpX k f) = true → nu1 k f = mu k f) := kp_c 3 hn1 (fun _ => rfl) (by decide) (fun _ _ _ => rfl)
  refine lv_iconst (v := 0) hx hb dX8_beLike_15 (by decide) ?_
  refine lv_istore_n (lv' := [(2, .int 0), (0, .ref (ad 5)), (1, .ref (ad 20))]) hx hb dX8_beLike_16 rfl hl (by decide) rfl (fun ls hl => ?_)
  have loop17 : ∀ (n17 : Nat) (v2_17 : Int32) (nu17_ : Nat → Nat → Int32) (H : Heap) (locs : List Loc) (ls : Array Slot), (4 + 1 - v2_17.toInt).toNat < n17 → (0 ≤ v2_17.toInt ∧ v2_17.toInt ≤ 4) → okR loX hiX nu17_ → va_P (dC, dI) vwCl (wR 157 ad (EX cs ad) nu17_) H → (∀ k f : Nat, Nat.testBit 54 (gpX k f) = true → nu17_ k f = mu k f) → L_sx_Standing_beLike_5_20_17_0 n17 v2_17 nu17_ = fz → va_S (va_A (wR 157 ad (EX cs ad) mu) s.heap.size) s.heap H locs → lv_has ls 3 [(2, .int v2_17), (0, .ref (ad 5)), (1, .ref (ad 20))] → W p l e (headSpec (wU yX8_beLike cX8_beLike 3 none) ({ frames := 1, cells := 0, slots := 0, locals := 60 })).room s m ([.ref (ad 5), .ref (ad 20)] : List Value).toArray below meth c H locs 0 0 (MQ below (va_Qv (fun (xi : Nat → Nat → Int32) => xi = F_sx_Standing_beLike_5_20 mu ∧ okR loX hiX xi ∧ (True) ∧ (∀ k f : Nat, Nat.testBit 54 (gpX k f) = true → xi k f = mu k f)) (fun xi t => va_P (dC, dI) vwCl (wR 157 ad (EX cs ad) xi) t.heap) (va_A (wR 157 ad (EX cs ad) mu) s.heap.size)) ([.ref (ad 5), .ref (ad 20)] : List Value).toArray s 0 0 (va_A (wR 157 ad (EX cs ad) mu) s.heap.size)) (F0 m 17 ls []) := by
    intro n17
    induction n17 with
    | zero => intro v2_17 nu17_ H locs ls hm; exact absurd hm (Nat.not_lt_zero _)
    | succ n17 ih17 =>
      intro v2_17 nu17_ H locs ls hm_17 h_v2_17 ok hP kq17_0 hF hS hl
      rw [L_sx_Standing_beLike_5_20_17_0] at hF
      refine lv_iload_n hx hb dX8_beLike_17 rfl (lv_at hl 0 rfl) ?_
      refine lv_iconst (v := 4) hx hb dX8_beLike_18 (by decide) ?_
      refine lv_icmp_ge (tgt := 43) hx hb dX8_beLike_19 (by decide) (fun c_3 => ?_) (fun c_3 => ?_)
      · have hF := (if_pos c_3).symm.trans hF
        have c_3 : 4 ≤ v2_17.toInt := il_le c_3
        refine lv_aload_n hx hb dX8_beLike_43 rfl (lv_at hl 1 rfl) ?_
        refine lv_aload_n hx hb dX8_beLike_44 rfl (lv_at hl 2 rfl) ?_
        refine va_get (D := (dC, dI)) (ci := 8) (v := .int (nu17_ 20 2)) (C := RX8) (T := TX8) (N := 6) hx hb hts inG8 hown hK hP 20 (gX_20 cs ad nu17_) rfl 2 (by decide) (hts _ (List.mem_cons_of_mem _ mw_1_113)) (fun _ h9 => h9) rfl dX8_beLike_45 ?_
        refine lv_topi (fun y4 ey4 => ?_)
        have hF := mi_let hF ey4
        have by4 : y4.toInt = (nu17_ 20 2).toInt := congrArg Int32.toInt ey4
        refine va_put (D := (dC, dI)) (ci := 8) (v := .int y4) (ty := .int) (C := RX8) (T := TX8) (N := 6) hx hb hts inG8 tyX8 tyX8_ok nmX8 hown hK hP (wR_D nu17_ hD) hS 5 (gX_5 cs ad nu17_) rfl 2 (by decide) (hts _ (List.mem_cons_of_mem _ mw_1_113)) (fun _ h9 => h9) rfl (by decide +kernel) rfl rfl (Nat.le_of_ble_eq_true rfl) dX8_beLike_48 (fun H locs hP _ hS => ?_)
        simp only [List.set_cons_succ, List.set_cons_zero] at hP
        refine wr_gen (upd (nu17_ 5) 2 y4) hP ((hX_5_2 cs ad _ _)) (fun nu5 hn5 hP => ?_)
        have hF := mi_let hF hn5.symm
        have ok := tX_5_2 ok hn5
        have ez6 : y4 = nu5 20 2 := ey4.trans (congrFun (up_k hn5 (by decide)) 2).symm
        have kp7 : (∀ k f : Nat, Nat.testBit 54 (gpX k f) = true → nu5 k f = mu k f) := kp_f hn5 (by decide) kq17_0
        have ez8 : y4 = nu5 5 2 := up_v hn5
        refine lv_aload_n hx hb dX8_beLike_51 rfl (lv_at hl 1 rfl) ?_
        refine lv_aload_n hx hb dX8_beLike_52 rfl (lv_at hl 2 rfl) ?_
        refine va_get (D := (dC, dI)) (ci := 8) (v := .int (nu5 20 3)) (C := RX8) (T := TX8) (N := 6) hx hb hts inG8 hown hK hP 20 (gX_20 cs ad nu5) rfl 3 (by decide) (hts _ (List.mem_cons_of_mem _ mw_1_120)) (fun _ h9 => h9) rfl dX8_beLike_53 ?_
        refine lv_topi (fun y9 ey9 => ?_)
        have hF := mi_let hF ey9
        have by9 : y9.toInt = (nu5 20 3).toInt := congrArg Int32.toInt ey9
        refine va_put (D := (dC, dI)) (ci := 8) (v := .int y9) (ty := .int) (C := RX8) (T := TX8) (N := 6) hx hb hts inG8 tyX8 tyX8_ok nmX8 hown hK hP (wR_D nu5 hD) hS 5 (gX_5 cs ad nu5) rfl 3 (by decide) (hts _ (List.mem_cons_of_mem _ mw_1_120)) (fun _ h9 => h9) rfl (by decide +kernel) rfl rfl (Nat.le_of_ble_eq_true rfl) dX8_beLike_56 (fun H locs hP _ hS => ?_)
        simp only [List.set_cons_succ, List.set_cons_zero] at hP
        refine wr_gen (upd (nu5 5) 3 y9) hP ((hX_5_3 cs ad _ _)) (fun nu10 hn10 hP => ?_)
        have hF := mi_let hF hn10.symm
        have ok := tX_5_3 ok hn10
        have ez11 : y4 = nu10 20 2 := ez6.trans (congrFun (up_k hn10 (by decide)) 2).symm
        have ez12 : y4 = nu10 5 2 := ez8.trans (up_f hn10 (by decide)).symm
        have ez13 : y9 = nu10 20 3 := ey9.trans (congrFun (up_k hn10 (by decide)) 3).symm
        have kp14 : (∀ k f : Nat, Nat.testBit 54 (gpX k f) = true → nu10 k f = mu k f) := kp_f hn10 (by decide) kp7
        have ez15 : y9 = nu10 5 3 := up_v hn10
        refine lv_aload_n hx hb dX8_beLike_59 rfl (lv_at hl 1 rfl) ?_
        refine lv_aload_n hx hb dX8_beLike_60 rfl (lv_at hl 2 rfl) ?_
        refine va_get (D := (dC, dI)) (ci := 8) (v := .int (nu10 20 4)) (C := RX8) (T := TX8) (N := 6) hx hb hts inG8 hown hK hP 20 (gX_20 cs ad nu10) rfl 4 (by decide) (hts _ (List.mem_cons_of_mem _ mw_1_125)) (fun _ h9 => h9) rfl dX8_beLike_61 ?_
        refine lv_topi (fun y16 ey16 => ?_)
        have hF := mi_let hF ey16
        have by16 : y16.toInt = (nu10 20 4).toInt := congrArg Int32.toInt ey16
        have gy16 : 0 ≤ y16.toInt ∧ y16.toInt ≤ 4 := by rw [ey16]; exact rX_20_4 ok
        refine va_put (D := (dC, dI)) (ci := 8) (v := .int y16) (ty := .int) (C := RX8) (T := TX8) (N := 6) hx hb hts inG8 tyX8 tyX8_ok nmX8 hown hK hP (wR_D nu10 hD) hS 5 (gX_5 cs ad nu10) rfl 4 (by decide) (hts _ (List.mem_cons_of_mem _ mw_1_125)) (fun _ h9 => h9) rfl (by decide +kernel) rfl rfl (Nat.le_of_ble_eq_true rfl) dX8_beLike_64 (fun H locs hP _ hS => ?_)
        simp only [List.set_cons_succ, List.set_cons_zero] at hP
        refine wr_gen (upd (nu10 5) 4 y16) hP ((hX_5_4 cs ad _ _)) (fun nu17 hn17 hP => ?_)
        have hF := mi_let hF hn17.symm
        have ok := tX_5_4 ok hn17 (by omega)
        have ez18 : y4 = nu17 20 2 := ez11.trans (congrFun (up_k hn17 (by decide)) 2).symm
        have ez19 : y4 = nu17 5 2 := ez12.trans (up_f hn17 (by decide)).symm
        have ez20 : y9 = nu17 20 3 := ez13.trans (congrFun (up_k hn17 (by decide)) 3).symm
        have ez21 : y9 = nu17 5 3 := ez15.trans (up_f hn17 (by decide)).symm
        have ez22 : y16 = nu17 20 4 := ey16.trans (congrFun (up_k hn17 (by decide)) 4).symm
        have kp23 : (∀ k f : Nat, Nat.testBit 54 (gpX k f) = true → nu17 k f = mu k f) := kp_f hn17 (by decide) kp14
        have ez24 : y16 = nu17 5 4 := up_v hn17
        exact W.vret hx hb hr (fun t ht hW => ⟨⟨nu17, rfl, ⟨hF.trans hfz.symm, ok, trivial, kp23⟩, by first | (subst ht; exact hP) | (rw [ht]; exact hP) | (show va_P (dC, dI) vwCl (wR 157 ad (EX cs ad) nu17) t.heap; rw [ht]; exact hP)⟩, hS.F ht⟩) hS.2.2 dX8_beLike_67
      · have hF := (if_neg c_3).symm.trans hF
        have c_3 : v2_17.toInt < 4 := il_nle c_3
        refine lv_aload_n hx hb dX8_beLike_22 rfl (lv_at hl 1 rfl) ?_
        refine va_get (D := (dC, dI)) (ci := 8) (v := .ref (ad 47)) (C := RX8) (T := TX8) (N := 6) hx hb hts inG8 hown hK hP 5 (gX_5 cs ad nu17_) rfl 1 (by decide) (hts _ (List.mem_cons_of_mem _ mw_1_109)) (fun _ h9 => h9) rfl dX8_beLike_23 ?_
        refine lv_iload_n hx hb dX8_beLike_26 rfl (lv_at hl 0 rfl) ?_
        have hx25 : 0 ≤ v2_17.toInt ∧ v2_17.toInt < ((4 : Nat) : Int) := ⟨by omega, by omega⟩
        refine va_aldq hx hb hK hP 47 5 (gX_47 cs ad nu17_) rfl (show vp_in v2_17 4 from vi_of hx25.1 hx25.2) dX8_beLike_27 ?_
        have hk25 : 61 ≤ (61 + v2_17.toNatClampNeg) ∧ (61 + v2_17.toNatClampNeg) < 65 := ix_of hx25
        have hk25 : 61 ≤ (61 + v2_17.toNatClampNeg) ∧ (61 + v2_17.toNatClampNeg) < 77 := ⟨Nat.le_trans (by decide) hk25.1, Nat.lt_of_lt_of_le hk25.2 (by decide)⟩
        refine lq_v (.ref (ad (61 + v2_17.toNatClampNeg))) rfl ?_
        refine lv_aload_n hx hb dX8_beLike_28 rfl (lv_at hl 2 rfl) ?_
        refine va_get (D := (dC, dI)) (ci := 8) (v := .ref (ad 45)) (C := RX8) (T := TX8) (N := 6) hx hb hts inG8 hown hK hP 20 (gX_20 cs ad nu17_) rfl 1 (by decide) (hts _ (List.mem_cons_of_mem _ mw_1_109)) (fun _ h9 => h9) rfl dX8_beLike_29 ?_
        refine lv_iload_n hx hb dX8_beLike_32 rfl (lv_at hl 0 rfl) ?_
        have hx26 : 0 ≤ v2_17.toInt ∧ v2_17.toInt < ((4 : Nat) : Int) := ⟨by omega, by omega⟩
        refine va_aldq hx hb hK hP 45 5 (gX_45 cs ad nu17_) rfl (show vp_in v2_17 4 from vi_of hx26.1 hx26.2) dX8_beLike_33 ?_
        have hk26 : 73 ≤ (73 + v2_17.toNatClampNeg) ∧ (73 + v2_17.toNatClampNeg) < 77 := ix_of hx26
        have hk26 : 61 ≤ (73 + v2_17.toNatClampNeg) ∧ (73 + v2_17.toNatClampNeg) < 77 := ⟨Nat.le_trans (by decide) hk26.1, Nat.lt_of_lt_of_le hk26.2 (by decide)⟩
        refine lq_v (.ref (ad (73 + v2_17.toNatClampNeg))) rfl ?_
        have hFc := fr_all (wR_D nu17_ hD) hS hA
        refine va_callv (va_runV (As := [.ref (ad (73 + v2_17.toNatClampNeg))]) (rest := []) ⟨hx, hb, hml, hown, hts⟩ (sx_Letter_beLike l dC dI cs ad nu17_ ok H hP ((wR_D nu17_ hD).weaken (fun _ _ _ _ => trivial)) (61 + v2_17.toNatClampNeg) hk25.1 hk25.2 (73 + v2_17.toNatClampNeg) hk26.1 hk26.2) (cwV 1 hts (wU_V mw_3_229 mw_3_226 mw_3_227 mw_3_228 mw_1_4) rfl rfl rfl (by decide +kernel) ⟨Nat.le_of_ble_eq_true rfl, Nat.le_of_ble_eq_true rfl⟩) ⟨sz_c, va_recv hK hP (ci := 3) (q0 := (61 + v2_17.toNatClampNeg)) rfl (gX_letter cs ad nu17_ (61 + v2_17.toNatClampNeg) hk25.1 hk25.2), sz_m hK hz⟩ rfl rfl hl.1 rfl (lv_room (Nat.le_of_ble_eq_true rfl)) dX8_beLike_34 ⟨Nat.zero_le _, Nat.zero_le _⟩) hS (fun q _ h => hFc q h) hFc (fun xi27 t H27 locs ht hvm hw27 hB hz1 hk1 hS => ?_)
        have hP : va_P (dC, dI) vwCl (wR 157 ad (EX cs ad) xi27) H27 := by rw [← ht]; exact hB
        obtain ⟨hfe27, ok, hw27, hkp27_0⟩ := hw27
        have hF := mi_let hF hfe27
        have kp28 : (∀ k f : Nat, Nat.testBit 54 (gpX k f) = true → xi27 k f = mu k f) := kp_t hkp27_0 (by decide) kq17_0
        refine lv_iinc (v := (v2_17 + 1)) (lv' := [(2, .int (v2_17 + 1)), (0, .ref (ad 5)), (1, .ref (ad 20))]) hx hb dX8_beLike_37 hl (k := 0) rfl rfl (by decide) rfl (fun ls hl => ?_)
        refine loc_gen (P := fun w9 => lv_has ls 3 [(2, .int w9), (0, .ref (ad 5)), (1, .ref (ad 20))]) (v2_17 + 1) hl (fun w29 hw29 hl => ?_)
        have hl : lv_has ls 3 [(2, .int w29), (0, .ref (ad 5)), (1, .ref (ad 20))] := hl
        have hF := mi_let hF hw29.symm
        have aw29 : w29.toInt = v2_17.toInt + 1 := by rw [← hw29]; first | exact va1 (Int.lt_of_le_of_lt h_v2_17.2 (by decide)) | exact va1 (by omega)
        refine lv_goto (tgt := 17) hx hb dX8_beLike_40 (by decide) ?_
        exact ih17 (w29) xi27 _ _ _ (by first | exact ms_up hm_17 aw29 h_v2_17.2 | exact ms_lt hm_17 (by omega) (by omega) | omega) (by first | exact rg_up aw29 h_v2_17 (by omega) | omega)  ok hP  kp28 hF hS (lv_sub hl [0, 1, 2] rfl)
  exact loop17 7 (0) nu1 _ _ _ (by have h80 : (0 : Int32).toInt = 0 := rfl; omega) (by have h80 : (0 : Int32).toInt = 0 := rfl; exact ⟨by omega, by omega⟩)  ok hP  kp2 hF hS hl
set_option maxHeartbeats 4000000 in
set_option maxRecDepth 100000 in
/-- sx_Standing_beLike_18_5 -/
theorem sx_Standing_beLike_18_5 (l : Launch) (dC : Nat → ClassId) (dI : Nat → Nat → Nat) (cs : Nat → ClassId) (ad : Nat → Nat) (mu : Nat → Nat → Int32) (ok : okR loX hiX mu) (H : Heap) (hP : va_P (dC, dI) vwCl (wR 157 ad (EX cs ad) mu) H) (hD0 : va_D (fun _ => True) (wR 157 ad (EX cs ad) mu)) : Met l yX8_beLike (wU yX8_beLike cX8_beLike 3 none) ({ frames := 1, cells := 0, slots := 0, locals := 60 }) (va_Pc [.ref (ad 18), .ref (ad 5)] (sz_P (dC, dI) vwCl (tyW cs) H)) (va_Qv (fun (xi : Nat → Nat → Int32) => xi = F_sx_Standing_beLike_18_5 mu ∧ okR loX hiX xi ∧ (True) ∧ (∀ k f : Nat, Nat.testBit 470 (gpX k f) = true → xi k f = mu k f)) (fun xi t => va_P (dC, dI) vwCl (wR 157 ad (EX cs ad) xi) t.heap) (va_A (wR 157 ad (EX cs ad) mu) H.size)) 0 0 (va_A (wR 157 ad (EX cs ad) mu) H.size) := by
  refine Met.ofW (cc := cX8_beLike) (maxL := 3) (ret := none) (by decide) rfl ?_
  intro p e s m args below meth c s₁ B hml hv
  obtain ⟨rfl, hh, hK, hz⟩ := hv
  have hx := B.exec
  have hb := B.bytes
  have hr := B.returns
  have hts := atoms_spec (ws := (wU yX8_beLike cX8_beLike 3 none)) B.pre
  have hown : s.vm.findClass RX8 = some m.cls := findClass_of_methodNamed B.named
  have hlocks := B.notSynchronized
  subst hh
  have hD := hD0.self (sz := s.heap.size)
  have hA : ∀ q : Nat, s.heap.size ≤ q → (va_A (wR 157 ad (EX cs ad) mu) s.heap.size) q := fun q h => Or.inr h
  have hS : va_S (va_A (wR 157 ad (EX cs ad) mu) s.heap.size) s.heap s.heap [] := va_S.rf
  have hl := lv_entry ([.ref (ad 18), .ref (ad 5)]) (n := 3) (Nat.le_of_ble_eq_true rfl)
  rw [lg_entry_eq]
  generalize (lg_sl ([.ref (ad 18), .ref (ad 5)]) ++ List.replicate (3 - (lg_sl ([.ref (ad 18), .ref (ad 5)])).length) Slot.unset).toArray = ls at hl ⊢
  have hl : lv_has ls 3 [(0, .ref (ad 18)), (1, .ref (ad 5))] := hl
  obtain ⟨fz, hfz⟩ : ∃ z, F_sx_Standing_beLike_18_5 mu = z := ⟨_, rfl⟩
  have hF := hfz
  unfold F_sx_Standing_beLike_18_5 at hF
  refine lv_aload_n hx hb dX8_beLike_0 rfl (lv_at hl 1 rfl) ?_
  refine va_get (D := (dC, dI)) (ci := 8) (v := .ref (ad 46)) (C := RX8) (T := TX8) (N := 6) hx hb hts inG8 hown hK hP 5 (gX_5 cs ad mu) rfl 0 (by decide) (hts _ (List.mem_cons_of_mem _ mw_1_103)) (fun _ h9 => h9) rfl dX8_beLike_1 ?_
  refine lv_iconst (v := 0) hx hb dX8_beLike_4 (by decide) ?_
  refine lv_aload_n hx hb dX8_beLike_5 rfl (lv_at hl 0 rfl) ?_
  refine va_get (D := (dC, dI)) (ci := 8) (v := .ref (ad 40)) (C := RX8) (T := TX8) (N := 6) hx hb hts inG8 hown hK hP 18 (gX_18 cs ad mu) rfl 0 (by decide) (hts _ (List.mem_cons_of_mem _ mw_1_103)) (fun _ h9 => h9) rfl dX8_beLike_6 ?_
  refine lv_iconst (v := 0) hx hb dX8_beLike_9 (by decide) ?_
  refine lv_bipush (v := 7) hx hb dX8_beLike_10 (by decide) ?_
  refine va_copyi hx hb (hml.trans hl.1.symm) hown (hts _ (List.mem_cons_of_mem _ mw_3_225)) (hts _ (List.mem_cons_of_mem _ mw_3_4)) (hts _ (List.mem_cons_of_mem _ mw_3_3)) (hts _ (List.mem_cons_of_mem _ mw_1_15)) hK hP (wR_D mu hD) hS 46 40 0 0 (gX_46 cs ad mu) (gX_40 cs ad mu) rfl rfl rfl (by decide) (by decide) (by decide) (by have ua : ((0 : Int32).toNatClampNeg : Int) = 0 := rfl; have ub : ((0 : Int32).toNatClampNeg : Int) = 0 := rfl; have uc : ((7 : Int32).toNatClampNeg : Int) = 7 := rfl; omega) (by have ua : ((0 : Int32).toNatClampNeg : Int) = 0 := rfl; have ub : ((0 : Int32).toNatClampNeg : Int) = 0 := rfl; have uc : ((7 : Int32).toNatClampNeg : Int) = 7 := rfl; omega) (fun _ _ => rfl) (Nat.le_of_ble_eq_true rfl) (Nat.le_of_ble_eq_true rfl) dX8_beLike_12 (fun H locs hP _ hS => ?_)
  refine wr_gen (va_cpy (mu 46) (mu 40) (0 : Int32).toNatClampNeg (0 : Int32).toNatClampNeg (7 : Int32).toNatClampNeg) hP (rfl) (fun nu1 hn1 hP => ?_)
  have hF := mi_let hF hn1.symm
  have ok := okR_cp ok hn1 (cX_46_40  )
  have kp2 : (∀ k f : Nat, Nat.testBit 470 (gpX k f) = true → nu1 k f = mu k f) := kp_c 5 hn1 (fun _ => rfl) (by decide) (fun _ _ _ => rfl)
  refine lv_iconst (v := 0) hx hb dX8_beLike_15 (by decide) ?_
  refine lv_istore_n (lv' := [(2, .int 0), (0, .ref (ad 18)), (1, .ref (ad 5))]) hx hb dX8_beLike_16 rfl hl (by decide) rfl (fun ls hl => ?_)
  have loop17 : ∀ (n17 : Nat) (v2_17 : Int32) (nu17_ : Nat → Nat → Int32) (H : Heap) (locs : List Loc) (ls : Array Slot), (4 + 1 - v2_17.toInt).toNat < n17 → (0 ≤ v2_17.toInt ∧ v2_17.toInt ≤ 4) → okR loX hiX nu17_ → va_P (dC, dI) vwCl (wR 157 ad (EX cs ad) nu17_) H → (∀ k f : Nat, Nat.testBit 470 (gpX k f) = true → nu17_ k f = mu k f) → L_sx_Standing_beLike_18_5_17_0 n17 v2_17 nu17_ = fz → va_S (va_A (wR 157 ad (EX cs ad) mu) s.heap.size) s.heap H locs → lv_has ls 3 [(2, .int v2_17), (0, .ref (ad 18)), (1, .ref (ad 5))] → W p l e (headSpec (wU yX8_beLike cX8_beLike 3 none) ({ frames := 1, cells := 0, slots := 0, locals := 60 })).room s m ([.ref (ad 18), .ref (ad 5)] : List Value).toArray below meth c H locs 0 0 (MQ below (va_Qv (fun (xi : Nat → Nat → Int32) => xi = F_sx_Standing_beLike_18_5 mu ∧ okR loX hiX xi ∧ (True) ∧ (∀ k f : Nat, Nat.testBit 470 (gpX k f) = true → xi k f = mu k f)) (fun xi t => va_P (dC, dI) vwCl (wR 157 ad (EX cs ad) xi) t.heap) (va_A (wR 157 ad (EX cs ad) mu) s.heap.size)) ([.ref (ad 18), .ref (ad 5)] : List Value).toArray s 0 0 (va_A (wR 157 ad (EX cs ad) mu) s.heap.size)) (F0 m 17 ls []) := by
    intro n17
    induction n17 with
    | zero => intro v2_17 nu17_ H locs ls hm; exact absurd hm (Nat.not_lt_zero _)
    | succ n17 ih17 =>
      intro v2_17 nu17_ H locs ls hm_17 h_v2_17 ok hP kq17_0 hF hS hl
      rw [L_sx_Standing_beLike_18_5_17_0] at hF
      refine lv_iload_n hx hb dX8_beLike_17 rfl (lv_at hl 0 rfl) ?_
      refine lv_iconst (v := 4) hx hb dX8_beLike_18 (by decide) ?_
      refine lv_icmp_ge (tgt := 43) hx hb dX8_beLike_19 (by decide) (fun c_3 => ?_) (fun c_3 => ?_)
      · have hF := (if_pos c_3).symm.trans hF
        have c_3 : 4 ≤ v2_17.toInt := il_le c_3
        refine lv_aload_n hx hb dX8_beLike_43 rfl (lv_at hl 1 rfl) ?_
        refine lv_aload_n hx hb dX8_beLike_44 rfl (lv_at hl 2 rfl) ?_
        refine va_get (D := (dC, dI)) (ci := 8) (v := .int (nu17_ 5 2)) (C := RX8) (T := TX8) (N := 6) hx hb hts inG8 hown hK hP 5 (gX_5 cs ad nu17_) rfl 2 (by decide) (hts _ (List.mem_cons_of_mem _ mw_1_113)) (fun _ h9 => h9) rfl dX8_beLike_45 ?_
        refine lv_topi (fun y4 ey4 => ?_)
        have hF := mi_let hF ey4
        have by4 : y4.toInt = (nu17_ 5 2).toInt := congrArg Int32.toInt ey4
        refine va_put (D := (dC, dI)) (ci := 8) (v := .int y4) (ty := .int) (C := RX8) (T := TX8) (N := 6) hx hb hts inG8 tyX8 tyX8_ok nmX8 hown hK hP (wR_D nu17_ hD) hS 18 (gX_18 cs ad nu17_) rfl 2 (by decide) (hts _ (List.mem_cons_of_mem _ mw_1_113)) (fun _ h9 => h9) rfl (by decide +kernel) rfl rfl (Nat.le_of_ble_eq_true rfl) dX8_beLike_48 (fun H locs hP _ hS => ?_)
        simp only [List.set_cons_succ, List.set_cons_zero] at hP
        refine wr_gen (upd (nu17_ 18) 2 y4) hP ((hX_18_2 cs ad _ _)) (fun nu5 hn5 hP => ?_)
        have hF := mi_let hF hn5.symm
        have ok := tX_18_2 ok hn5
        have ez6 : y4 = nu5 5 2 := ey4.trans (congrFun (up_k hn5 (by decide)) 2).symm
        have kp7 : (∀ k f : Nat, Nat.testBit 470 (gpX k f) = true → nu5 k f = mu k f) := kp_c 5 hn5 (fun _ => rfl) (by decide) kq17_0
        have ez8 : y4 = nu5 18 2 := up_v hn5
        refine lv_aload_n hx hb dX8_beLike_51 rfl (lv_at hl 1 rfl) ?_
        refine lv_aload_n hx hb dX8_beLike_52 rfl (lv_at hl 2 rfl) ?_
        refine va_get (D := (dC, dI)) (ci := 8) (v := .int (nu5 5 3)) (C := RX8) (T := TX8) (N := 6) hx hb hts inG8 hown hK hP 5 (gX_5 cs ad nu5) rfl 3 (by decide) (hts _ (List.mem_cons_of_mem _ mw_1_120)) (fun _ h9 => h9) rfl dX8_beLike_53 ?_
        refine lv_topi (fun y9 ey9 => ?_)
        have hF := mi_let hF ey9
        have by9 : y9.toInt = (nu5 5 3).toInt := congrArg Int32.toInt ey9
        refine va_put (D := (dC, dI)) (ci := 8) (v := .int y9) (ty := .int) (C := RX8) (T := TX8) (N := 6) hx hb hts inG8 tyX8 tyX8_ok nmX8 hown hK hP (wR_D nu5 hD) hS 18 (gX_18 cs ad nu5) rfl 3 (by decide) (hts _ (List.mem_cons_of_mem _ mw_1_120)) (fun _ h9 => h9) rfl (by decide +kernel) rfl rfl (Nat.le_of_ble_eq_true rfl) dX8_beLike_56 (fun H locs hP _ hS => ?_)
        simp only [List.set_cons_succ, List.set_cons_zero] at hP
        refine wr_gen (upd (nu5 18) 3 y9) hP ((hX_18_3 cs ad _ _)) (fun nu10 hn10 hP => ?_)
        have hF := mi_let hF hn10.symm
        have ok := tX_18_3 ok hn10
        have ez11 : y4 = nu10 5 2 := ez6.trans (congrFun (up_k hn10 (by decide)) 2).symm
        have ez12 : y4 = nu10 18 2 := ez8.trans (up_f hn10 (by decide)).symm
        have ez13 : y9 = nu10 5 3 := ey9.trans (congrFun (up_k hn10 (by decide)) 3).symm
        have kp14 : (∀ k f : Nat, Nat.testBit 470 (gpX k f) = true → nu10 k f = mu k f) := kp_c 5 hn10 (fun _ => rfl) (by decide) kp7
        have ez15 : y9 = nu10 18 3 := up_v hn10
        refine lv_aload_n hx hb dX8_beLike_59 rfl (lv_at hl 1 rfl) ?_
        refine lv_aload_n hx hb dX8_beLike_60 rfl (lv_at hl 2 rfl) ?_
        refine va_get (D := (dC, dI)) (ci := 8) (v := .int (nu10 5 4)) (C := RX8) (T := TX8) (N := 6) hx hb hts inG8 hown hK hP 5 (gX_5 cs ad nu10) rfl 4 (by decide) (hts _ (List.mem_cons_of_mem _ mw_1_125)) (fun _ h9 => h9) rfl dX8_beLike_61 ?_
        refine lv_topi (fun y16 ey16 => ?_)
        have hF := mi_let hF ey16
        have by16 : y16.toInt = (nu10 5 4).toInt := congrArg Int32.toInt ey16
        have gy16 : 0 ≤ y16.toInt ∧ y16.toInt ≤ 4 := by rw [ey16]; exact rX_5_4 ok
        refine va_put (D := (dC, dI)) (ci := 8) (v := .int y16) (ty := .int) (C := RX8) (T := TX8) (N := 6) hx hb hts inG8 tyX8 tyX8_ok nmX8 hown hK hP (wR_D nu10 hD) hS 18 (gX_18 cs ad nu10) rfl 4 (by decide) (hts _ (List.mem_cons_of_mem _ mw_1_125)) (fun _ h9 => h9) rfl (by decide +kernel) rfl rfl (Nat.le_of_ble_eq_true rfl) dX8_beLike_64 (fun H locs hP _ hS => ?_)
        simp only [List.set_cons_succ, List.set_cons_zero] at hP
        refine wr_gen (upd (nu10 18) 4 y16) hP ((hX_18_4 cs ad _ _)) (fun nu17 hn17 hP => ?_)
        have hF := mi_let hF hn17.symm
        have ok := tX_18_4 ok hn17 (by omega)
        have ez18 : y4 = nu17 5 2 := ez11.trans (congrFun (up_k hn17 (by decide)) 2).symm
        have ez19 : y4 = nu17 18 2 := ez12.trans (up_f hn17 (by decide)).symm
        have ez20 : y9 = nu17 5 3 := ez13.trans (congrFun (up_k hn17 (by decide)) 3).symm
        have ez21 : y9 = nu17 18 3 := ez15.trans (up_f hn17 (by decide)).symm
        have ez22 : y16 = nu17 5 4 := ey16.trans (congrFun (up_k hn17 (by decide)) 4).symm
        have kp23 : (∀ k f : Nat, Nat.testBit 470 (gpX k f) = true → nu17 k f = mu k f) := kp_c 5 hn17 (fun _ => rfl) (by decide) kp14
        have ez24 : y16 = nu17 18 4 := up_v hn17
        exact W.vret hx hb hr (fun t ht hW => ⟨⟨nu17, rfl, ⟨hF.trans hfz.symm, ok, trivial, kp23⟩, by first | (subst ht; exact hP) | (rw [ht]; exact hP) | (show va_P (dC, dI) vwCl (wR 157 ad (EX cs ad) nu17) t.heap; rw [ht]; exact hP)⟩, hS.F ht⟩) hS.2.2 dX8_beLike_67
      · have hF := (if_neg c_3).symm.trans hF
        have c_3 : v2_17.toInt < 4 := il_nle c_3
        refine lv_aload_n hx hb dX8_beLike_22 rfl (lv_at hl 1 rfl) ?_
        refine va_get (D := (dC, dI)) (ci := 8) (v := .ref (ad 43)) (C := RX8) (T := TX8) (N := 6) hx hb hts inG8 hown hK hP 18 (gX_18 cs ad nu17_) rfl 1 (by decide) (hts _ (List.mem_cons_of_mem _ mw_1_109)) (fun _ h9 => h9) rfl dX8_beLike_23 ?_
        refine lv_iload_n hx hb dX8_beLike_26 rfl (lv_at hl 0 rfl) ?_
        have hx25 : 0 ≤ v2_17.toInt ∧ v2_17.toInt < ((4 : Nat) : Int) := ⟨by omega, by omega⟩
        refine va_aldq hx hb hK hP 43 5 (gX_43 cs ad nu17_) rfl (show vp_in v2_17 4 from vi_of hx25.1 hx25.2) dX8_beLike_27 ?_
        have hk25 : 65 ≤ (65 + v2_17.toNatClampNeg) ∧ (65 + v2_17.toNatClampNeg) < 69 := ix_of hx25
        have hk25 : 61 ≤ (65 + v2_17.toNatClampNeg) ∧ (65 + v2_17.toNatClampNeg) < 77 := ⟨Nat.le_trans (by decide) hk25.1, Nat.lt_of_lt_of_le hk25.2 (by decide)⟩
        refine lq_v (.ref (ad (65 + v2_17.toNatClampNeg))) rfl ?_
        refine lv_aload_n hx hb dX8_beLike_28 rfl (lv_at hl 2 rfl) ?_
        refine va_get (D := (dC, dI)) (ci := 8) (v := .ref (ad 47)) (C := RX8) (T := TX8) (N := 6) hx hb hts inG8 hown hK hP 5 (gX_5 cs ad nu17_) rfl 1 (by decide) (hts _ (List.mem_cons_of_mem _ mw_1_109)) (fun _ h9 => h9) rfl dX8_beLike_29 ?_
        refine lv_iload_n hx hb dX8_beLike_32 rfl (lv_at hl 0 rfl) ?_
        have hx26 : 0 ≤ v2_17.toInt ∧ v2_17.toInt < ((4 : Nat) : Int) := ⟨by omega, by omega⟩
        refine va_aldq hx hb hK hP 47 5 (gX_47 cs ad nu17_) rfl (show vp_in v2_17 4 from vi_of hx26.1 hx26.2) dX8_beLike_33 ?_
        have hk26 : 61 ≤ (61 + v2_17.toNatClampNeg) ∧ (61 + v2_17.toNatClampNeg) < 65 := ix_of hx26
        have hk26 : 61 ≤ (61 + v2_17.toNatClampNeg) ∧ (61 + v2_17.toNatClampNeg) < 77 := ⟨Nat.le_trans (by decide) hk26.1, Nat.lt_of_lt_of_le hk26.2 (by decide)⟩
        refine lq_v (.ref (ad (61 + v2_17.toNatClampNeg))) rfl ?_
        have hFc := fr_all (wR_D nu17_ hD) hS hA
        refine va_callv (va_runV (As := [.ref (ad (61 + v2_17.toNatClampNeg))]) (rest := []) ⟨hx, hb, hml, hown, hts⟩ (sx_Letter_beLike l dC dI cs ad nu17_ ok H hP ((wR_D nu17_ hD).weaken (fun _ _ _ _ => trivial)) (65 + v2_17.toNatClampNeg) hk25.1 hk25.2 (61 + v2_17.toNatClampNeg) hk26.1 hk26.2) (cwV 1 hts (wU_V mw_3_229 mw_3_226 mw_3_227 mw_3_228 mw_1_4) rfl rfl rfl (by decide +kernel) ⟨Nat.le_of_ble_eq_true rfl, Nat.le_of_ble_eq_true rfl⟩) ⟨sz_c, va_recv hK hP (ci := 3) (q0 := (65 + v2_17.toNatClampNeg)) rfl (gX_letter cs ad nu17_ (65 + v2_17.toNatClampNeg) hk25.1 hk25.2), sz_m hK hz⟩ rfl rfl hl.1 rfl (lv_room (Nat.le_of_ble_eq_true rfl)) dX8_beLike_34 ⟨Nat.zero_le _, Nat.zero_le _⟩) hS (fun q _ h => hFc q h) hFc (fun xi27 t H27 locs ht hvm hw27 hB hz1 hk1 hS => ?_)
        have hP : va_P (dC, dI) vwCl (wR 157 ad (EX cs ad) xi27) H27 := by rw [← ht]; exact hB
        obtain ⟨hfe27, ok, hw27, hkp27_0⟩ := hw27
        have hF := mi_let hF hfe27
        have kp28 : (∀ k f : Nat, Nat.testBit 470 (gpX k f) = true → xi27 k f = mu k f) := kp_t hkp27_0 (by decide) kq17_0
        refine lv_iinc (v := (v2_17 + 1)) (lv' := [(2, .int (v2_17 + 1)), (0, .ref (ad 18)), (1, .ref (ad 5))]) hx hb dX8_beLike_37 hl (k := 0) rfl rfl (by decide) rfl (fun ls hl => ?_)
        refine loc_gen (P := fun w9 => lv_has ls 3 [(2, .int w9), (0, .ref (ad 18)), (1, .ref (ad 5))]) (v2_17 + 1) hl (fun w29 hw29 hl => ?_)
        have hl : lv_has ls 3 [(2, .int w29), (0, .ref (ad 18)), (1, .ref (ad 5))] := hl
        have hF := mi_let hF hw29.symm
        have aw29 : w29.toInt = v2_17.toInt + 1 := by rw [← hw29]; first | exact va1 (Int.lt_of_le_of_lt h_v2_17.2 (by decide)) | exact va1 (by omega)
        refine lv_goto (tgt := 17) hx hb dX8_beLike_40 (by decide) ?_
        exact ih17 (w29) xi27 _ _ _ (by first | exact ms_up hm_17 aw29 h_v2_17.2 | exact ms_lt hm_17 (by omega) (by omega) | omega) (by first | exact rg_up aw29 h_v2_17 (by omega) | omega)  ok hP  kp28 hF hS (lv_sub hl [0, 1, 2] rfl)
  exact loop17 7 (0) nu1 _ _ _ (by have h80 : (0 : Int32).toInt = 0 := rfl; omega) (by have h80 : (0 : Int32).toInt = 0 := rfl; exact ⟨by omega, by omega⟩)  ok hP  kp2 hF hS hl
set_option maxHeartbeats 4000000 in
set_option maxRecDepth 100000 in
/-- sx_Standing_beLike_19_5 -/
theorem sx_Standing_beLike_19_5 (l : Launch) (dC : Nat → ClassId) (dI : Nat → Nat → Nat) (cs : Nat → ClassId) (ad : Nat → Nat) (mu : Nat → Nat → Int32) (ok : okR loX hiX mu) (H : Heap) (hP : va_P (dC, dI) vwCl (wR 157 ad (EX cs ad) mu) H) (hD0 : va_D (fun _ => True) (wR 157 ad (EX cs ad) mu)) : Met l yX8_beLike (wU yX8_beLike cX8_beLike 3 none) ({ frames := 1, cells := 0, slots := 0, locals := 60 }) (va_Pc [.ref (ad 19), .ref (ad 5)] (sz_P (dC, dI) vwCl (tyW cs) H)) (va_Qv (fun (xi : Nat → Nat → Int32) => xi = F_sx_Standing_beLike_19_5 mu ∧ okR loX hiX xi ∧ (True) ∧ (∀ k f : Nat, Nat.testBit 470 (gpX k f) = true → xi k f = mu k f)) (fun xi t => va_P (dC, dI) vwCl (wR 157 ad (EX cs ad) xi) t.heap) (va_A (wR 157 ad (EX cs ad) mu) H.size)) 0 0 (va_A (wR 157 ad (EX cs ad) mu) H.size) := by
  refine Met.ofW (cc := cX8_beLike) (maxL := 3) (ret := none) (by decide) rfl ?_
  intro p e s m args below meth c s₁ B hml hv
  obtain ⟨rfl, hh, hK, hz⟩ := hv
  have hx := B.exec
  have hb := B.bytes
  have hr := B.returns
  have hts := atoms_spec (ws := (wU yX8_beLike cX8_beLike 3 none)) B.pre
  have hown : s.vm.findClass RX8 = some m.cls := findClass_of_methodNamed B.named
  have hlocks := B.notSynchronized
  subst hh
  have hD := hD0.self (sz := s.heap.size)
  have hA : ∀ q : Nat, s.heap.size ≤ q → (va_A (wR 157 ad (EX cs ad) mu) s.heap.size) q := fun q h => Or.inr h
  have hS : va_S (va_A (wR 157 ad (EX cs ad) mu) s.heap.size) s.heap s.heap [] := va_S.rf
  have hl := lv_entry ([.ref (ad 19), .ref (ad 5)]) (n := 3) (Nat.le_of_ble_eq_true rfl)
  rw [lg_entry_eq]
  generalize (lg_sl ([.ref (ad 19), .ref (ad 5)]) ++ List.replicate (3 - (lg_sl ([.ref (ad 19), .ref (ad 5)])).length) Slot.unset).toArray = ls at hl ⊢
  have hl : lv_has ls 3 [(0, .ref (ad 19)), (1, .ref (ad 5))] := hl
  obtain ⟨fz, hfz⟩ : ∃ z, F_sx_Standing_beLike_19_5 mu = z := ⟨_, rfl⟩
  have hF := hfz
  unfold F_sx_Standing_beLike_19_5 at hF
  refine lv_aload_n hx hb dX8_beLike_0 rfl (lv_at hl 1 rfl) ?_
  refine va_get (D := (dC, dI)) (ci := 8) (v := .ref (ad 46)) (C := RX8) (T := TX8) (N := 6) hx hb hts inG8 hown hK hP 5 (gX_5 cs ad mu) rfl 0 (by decide) (hts _ (List.mem_cons_of_mem _ mw_1_103)) (fun _ h9 => h9) rfl dX8_beLike_1 ?_
  refine lv_iconst (v := 0) hx hb dX8_beLike_4 (by decide) ?_
  refine lv_aload_n hx hb dX8_beLike_5 rfl (lv_at hl 0 rfl) ?_
  refine va_get (D := (dC, dI)) (ci := 8) (v := .ref (ad 41)) (C := RX8) (T := TX8) (N := 6) hx hb hts inG8 hown hK hP 19 (gX_19 cs ad mu) rfl 0 (by decide) (hts _ (List.mem_cons_of_mem _ mw_1_103)) (fun _ h9 => h9) rfl dX8_beLike_6 ?_
  refine lv_iconst (v := 0) hx hb dX8_beLike_9 (by decide) ?_
  refine lv_bipush (v := 7) hx hb dX8_beLike_10 (by decide) ?_
  refine va_copyi hx hb (hml.trans hl.1.symm) hown (hts _ (List.mem_cons_of_mem _ mw_3_225)) (hts _ (List.mem_cons_of_mem _ mw_3_4)) (hts _ (List.mem_cons_of_mem _ mw_3_3)) (hts _ (List.mem_cons_of_mem _ mw_1_15)) hK hP (wR_D mu hD) hS 46 41 0 0 (gX_46 cs ad mu) (gX_41 cs ad mu) rfl rfl rfl (by decide) (by decide) (by decide) (by have ua : ((0 : Int32).toNatClampNeg : Int) = 0 := rfl; have ub : ((0 : Int32).toNatClampNeg : Int) = 0 := rfl; have uc : ((7 : Int32).toNatClampNeg : Int) = 7 := rfl; omega) (by have ua : ((0 : Int32).toNatClampNeg : Int) = 0 := rfl; have ub : ((0 : Int32).toNatClampNeg : Int) = 0 := rfl; have uc : ((7 : Int32).toNatClampNeg : Int) = 7 := rfl; omega) (fun _ _ => rfl) (Nat.le_of_ble_eq_true rfl) (Nat.le_of_ble_eq_true rfl) dX8_beLike_12 (fun H locs hP _ hS => ?_)
  refine wr_gen (va_cpy (mu 46) (mu 41) (0 : Int32).toNatClampNeg (0 : Int32).toNatClampNeg (7 : Int32).toNatClampNeg) hP (rfl) (fun nu1 hn1 hP => ?_)
  have hF := mi_let hF hn1.symm
  have ok := okR_cp ok hn1 (cX_46_41  )
  have kp2 : (∀ k f : Nat, Nat.testBit 470 (gpX k f) = true → nu1 k f = mu k f) := kp_c 5 hn1 (fun _ => rfl) (by decide) (fun _ _ _ => rfl)
  refine lv_iconst (v := 0) hx hb dX8_beLike_15 (by decide) ?_
  refine lv_istore_n (lv' := [(2, .int 0), (0, .ref (ad 19)), (1, .ref (ad 5))]) hx hb dX8_beLike_16 rfl hl (by decide) rfl (fun ls hl => ?_)
  have loop17 : ∀ (n17 : Nat) (v2_17 : Int32) (nu17_ : Nat → Nat → Int32) (H : Heap) (locs : List Loc) (ls : Array Slot), (4 + 1 - v2_17.toInt).toNat < n17 → (0 ≤ v2_17.toInt ∧ v2_17.toInt ≤ 4) → okR loX hiX nu17_ → va_P (dC, dI) vwCl (wR 157 ad (EX cs ad) nu17_) H → (∀ k f : Nat, Nat.testBit 470 (gpX k f) = true → nu17_ k f = mu k f) → L_sx_Standing_beLike_19_5_17_0 n17 v2_17 nu17_ = fz → va_S (va_A (wR 157 ad (EX cs ad) mu) s.heap.size) s.heap H locs → lv_has ls 3 [(2, .int v2_17), (0, .ref (ad 19)), (1, .ref (ad 5))] → W p l e (headSpec (wU yX8_beLike cX8_beLike 3 none) ({ frames := 1, cells := 0, slots := 0, locals := 60 })).room s m ([.ref (ad 19), .ref (ad 5)] : List Value).toArray below meth c H locs 0 0 (MQ below (va_Qv (fun (xi : Nat → Nat → Int32) => xi = F_sx_Standing_beLike_19_5 mu ∧ okR loX hiX xi ∧ (True) ∧ (∀ k f : Nat, Nat.testBit 470 (gpX k f) = true → xi k f = mu k f)) (fun xi t => va_P (dC, dI) vwCl (wR 157 ad (EX cs ad) xi) t.heap) (va_A (wR 157 ad (EX cs ad) mu) s.heap.size)) ([.ref (ad 19), .ref (ad 5)] : List Value).toArray s 0 0 (va_A (wR 157 ad (EX cs ad) mu) s.heap.size)) (F0 m 17 ls []) := by
    intro n17
    induction n17 with
    | zero => intro v2_17 nu17_ H locs ls hm; exact absurd hm (Nat.not_lt_zero _)
    | succ n17 ih17 =>
      intro v2_17 nu17_ H locs ls hm_17 h_v2_17 ok hP kq17_0 hF hS hl
      rw [L_sx_Standing_beLike_19_5_17_0] at hF
      refine lv_iload_n hx hb dX8_beLike_17 rfl (lv_at hl 0 rfl) ?_
      refine lv_iconst (v := 4) hx hb dX8_beLike_18 (by decide) ?_
      refine lv_icmp_ge (tgt := 43) hx hb dX8_beLike_19 (by decide) (fun c_3 => ?_) (fun c_3 => ?_)
      · have hF := (if_pos c_3).symm.trans hF
        have c_3 : 4 ≤ v2_17.toInt := il_le c_3
        refine lv_aload_n hx hb dX8_beLike_43 rfl (lv_at hl 1 rfl) ?_
        refine lv_aload_n hx hb dX8_beLike_44 rfl (lv_at hl 2 rfl) ?_
        refine va_get (D := (dC, dI)) (ci := 8) (v := .int (nu17_ 5 2)) (C := RX8) (T := TX8) (N := 6) hx hb hts inG8 hown hK hP 5 (gX_5 cs ad nu17_) rfl 2 (by decide) (hts _ (List.mem_cons_of_mem _ mw_1_113)) (fun _ h9 => h9) rfl dX8_beLike_45 ?_
        refine lv_topi (fun y4 ey4 => ?_)
        have hF := mi_let hF ey4
        have by4 : y4.toInt = (nu17_ 5 2).toInt := congrArg Int32.toInt ey4
        refine va_put (D := (dC, dI)) (ci := 8) (v := .int y4) (ty := .int) (C := RX8) (T := TX8) (N := 6) hx hb hts inG8 tyX8 tyX8_ok nmX8 hown hK hP (wR_D nu17_ hD) hS 19 (gX_19 cs ad nu17_) rfl 2 (by decide) (hts _ (List.mem_cons_of_mem _ mw_1_113)) (fun _ h9 => h9) rfl (by decide +kernel) rfl rfl (Nat.le_of_ble_eq_true rfl) dX8_beLike_48 (fun H locs hP _ hS => ?_)
        simp only [List.set_cons_succ, List.set_cons_zero] at hP
        refine wr_gen (upd (nu17_ 19) 2 y4) hP ((hX_19_2 cs ad _ _)) (fun nu5 hn5 hP => ?_)
        have hF := mi_let hF hn5.symm
        have ok := tX_19_2 ok hn5
        have ez6 : y4 = nu5 5 2 := ey4.trans (congrFun (up_k hn5 (by decide)) 2).symm
        have kp7 : (∀ k f : Nat, Nat.testBit 470 (gpX k f) = true → nu5 k f = mu k f) := kp_c 5 hn5 (fun _ => rfl) (by decide) kq17_0
        have ez8 : y4 = nu5 19 2 := up_v hn5
        refine lv_aload_n hx hb dX8_beLike_51 rfl (lv_at hl 1 rfl) ?_
        refine lv_aload_n hx hb dX8_beLike_52 rfl (lv_at hl 2 rfl) ?_
        refine va_get (D := (dC, dI)) (ci := 8) (v := .int (nu5 5 3)) (C := RX8) (T := TX8) (N := 6) hx hb hts inG8 hown hK hP 5 (gX_5 cs ad nu5) rfl 3 (by decide) (hts _ (List.mem_cons_of_mem _ mw_1_120)) (fun _ h9 => h9) rfl dX8_beLike_53 ?_
        refine lv_topi (fun y9 ey9 => ?_)
        have hF := mi_let hF ey9
        have by9 : y9.toInt = (nu5 5 3).toInt := congrArg Int32.toInt ey9
        refine va_put (D := (dC, dI)) (ci := 8) (v := .int y9) (ty := .int) (C := RX8) (T := TX8) (N := 6) hx hb hts inG8 tyX8 tyX8_ok nmX8 hown hK hP (wR_D nu5 hD) hS 19 (gX_19 cs ad nu5) rfl 3 (by decide) (hts _ (List.mem_cons_of_mem _ mw_1_120)) (fun _ h9 => h9) rfl (by decide +kernel) rfl rfl (Nat.le_of_ble_eq_true rfl) dX8_beLike_56 (fun H locs hP _ hS => ?_)
        simp only [List.set_cons_succ, List.set_cons_zero] at hP
        refine wr_gen (upd (nu5 19) 3 y9) hP ((hX_19_3 cs ad _ _)) (fun nu10 hn10 hP => ?_)
        have hF := mi_let hF hn10.symm
        have ok := tX_19_3 ok hn10
        have ez11 : y4 = nu10 5 2 := ez6.trans (congrFun (up_k hn10 (by decide)) 2).symm
        have ez12 : y4 = nu10 19 2 := ez8.trans (up_f hn10 (by decide)).symm
        have ez13 : y9 = nu10 5 3 := ey9.trans (congrFun (up_k hn10 (by decide)) 3).symm
        have kp14 : (∀ k f : Nat, Nat.testBit 470 (gpX k f) = true → nu10 k f = mu k f) := kp_c 5 hn10 (fun _ => rfl) (by decide) kp7
        have ez15 : y9 = nu10 19 3 := up_v hn10
        refine lv_aload_n hx hb dX8_beLike_59 rfl (lv_at hl 1 rfl) ?_
        refine lv_aload_n hx hb dX8_beLike_60 rfl (lv_at hl 2 rfl) ?_
        refine va_get (D := (dC, dI)) (ci := 8) (v := .int (nu10 5 4)) (C := RX8) (T := TX8) (N := 6) hx hb hts inG8 hown hK hP 5 (gX_5 cs ad nu10) rfl 4 (by decide) (hts _ (List.mem_cons_of_mem _ mw_1_125)) (fun _ h9 => h9) rfl dX8_beLike_61 ?_
        refine lv_topi (fun y16 ey16 => ?_)
        have hF := mi_let hF ey16
        have by16 : y16.toInt = (nu10 5 4).toInt := congrArg Int32.toInt ey16
        have gy16 : 0 ≤ y16.toInt ∧ y16.toInt ≤ 4 := by rw [ey16]; exact rX_5_4 ok
        refine va_put (D := (dC, dI)) (ci := 8) (v := .int y16) (ty := .int) (C := RX8) (T := TX8) (N := 6) hx hb hts inG8 tyX8 tyX8_ok nmX8 hown hK hP (wR_D nu10 hD) hS 19 (gX_19 cs ad nu10) rfl 4 (by decide) (hts _ (List.mem_cons_of_mem _ mw_1_125)) (fun _ h9 => h9) rfl (by decide +kernel) rfl rfl (Nat.le_of_ble_eq_true rfl) dX8_beLike_64 (fun H locs hP _ hS => ?_)
        simp only [List.set_cons_succ, List.set_cons_zero] at hP
        refine wr_gen (upd (nu10 19) 4 y16) hP ((hX_19_4 cs ad _ _)) (fun nu17 hn17 hP => ?_)
        have hF := mi_let hF hn17.symm
        have ok := tX_19_4 ok hn17 (by omega)
        have ez18 : y4 = nu17 5 2 := ez11.trans (congrFun (up_k hn17 (by decide)) 2).symm
        have ez19 : y4 = nu17 19 2 := ez12.trans (up_f hn17 (by decide)).symm
        have ez20 : y9 = nu17 5 3 := ez13.trans (congrFun (up_k hn17 (by decide)) 3).symm
        have ez21 : y9 = nu17 19 3 := ez15.trans (up_f hn17 (by decide)).symm
        have ez22 : y16 = nu17 5 4 := ey16.trans (congrFun (up_k hn17 (by decide)) 4).symm
        have kp23 : (∀ k f : Nat, Nat.testBit 470 (gpX k f) = true → nu17 k f = mu k f) := kp_c 5 hn17 (fun _ => rfl) (by decide) kp14
        have ez24 : y16 = nu17 19 4 := up_v hn17
        exact W.vret hx hb hr (fun t ht hW => ⟨⟨nu17, rfl, ⟨hF.trans hfz.symm, ok, trivial, kp23⟩, by first | (subst ht; exact hP) | (rw [ht]; exact hP) | (show va_P (dC, dI) vwCl (wR 157 ad (EX cs ad) nu17) t.heap; rw [ht]; exact hP)⟩, hS.F ht⟩) hS.2.2 dX8_beLike_67
      · have hF := (if_neg c_3).symm.trans hF
        have c_3 : v2_17.toInt < 4 := il_nle c_3
        refine lv_aload_n hx hb dX8_beLike_22 rfl (lv_at hl 1 rfl) ?_
        refine va_get (D := (dC, dI)) (ci := 8) (v := .ref (ad 44)) (C := RX8) (T := TX8) (N := 6) hx hb hts inG8 hown hK hP 19 (gX_19 cs ad nu17_) rfl 1 (by decide) (hts _ (List.mem_cons_of_mem _ mw_1_109)) (fun _ h9 => h9) rfl dX8_beLike_23 ?_
        refine lv_iload_n hx hb dX8_beLike_26 rfl (lv_at hl 0 rfl) ?_
        have hx25 : 0 ≤ v2_17.toInt ∧ v2_17.toInt < ((4 : Nat) : Int) := ⟨by omega, by omega⟩
        refine va_aldq hx hb hK hP 44 5 (gX_44 cs ad nu17_) rfl (show vp_in v2_17 4 from vi_of hx25.1 hx25.2) dX8_beLike_27 ?_
        have hk25 : 69 ≤ (69 + v2_17.toNatClampNeg) ∧ (69 + v2_17.toNatClampNeg) < 73 := ix_of hx25
        have hk25 : 61 ≤ (69 + v2_17.toNatClampNeg) ∧ (69 + v2_17.toNatClampNeg) < 77 := ⟨Nat.le_trans (by decide) hk25.1, Nat.lt_of_lt_of_le hk25.2 (by decide)⟩
        refine lq_v (.ref (ad (69 + v2_17.toNatClampNeg))) rfl ?_
        refine lv_aload_n hx hb dX8_beLike_28 rfl (lv_at hl 2 rfl) ?_
        refine va_get (D := (dC, dI)) (ci := 8) (v := .ref (ad 47)) (C := RX8) (T := TX8) (N := 6) hx hb hts inG8 hown hK hP 5 (gX_5 cs ad nu17_) rfl 1 (by decide) (hts _ (List.mem_cons_of_mem _ mw_1_109)) (fun _ h9 => h9) rfl dX8_beLike_29 ?_
        refine lv_iload_n hx hb dX8_beLike_32 rfl (lv_at hl 0 rfl) ?_
        have hx26 : 0 ≤ v2_17.toInt ∧ v2_17.toInt < ((4 : Nat) : Int) := ⟨by omega, by omega⟩
        refine va_aldq hx hb hK hP 47 5 (gX_47 cs ad nu17_) rfl (show vp_in v2_17 4 from vi_of hx26.1 hx26.2) dX8_beLike_33 ?_
        have hk26 : 61 ≤ (61 + v2_17.toNatClampNeg) ∧ (61 + v2_17.toNatClampNeg) < 65 := ix_of hx26
        have hk26 : 61 ≤ (61 + v2_17.toNatClampNeg) ∧ (61 + v2_17.toNatClampNeg) < 77 := ⟨Nat.le_trans (by decide) hk26.1, Nat.lt_of_lt_of_le hk26.2 (by decide)⟩
        refine lq_v (.ref (ad (61 + v2_17.toNatClampNeg))) rfl ?_
        have hFc := fr_all (wR_D nu17_ hD) hS hA
        refine va_callv (va_runV (As := [.ref (ad (61 + v2_17.toNatClampNeg))]) (rest := []) ⟨hx, hb, hml, hown, hts⟩ (sx_Letter_beLike l dC dI cs ad nu17_ ok H hP ((wR_D nu17_ hD).weaken (fun _ _ _ _ => trivial)) (69 + v2_17.toNatClampNeg) hk25.1 hk25.2 (61 + v2_17.toNatClampNeg) hk26.1 hk26.2) (cwV 1 hts (wU_V mw_3_229 mw_3_226 mw_3_227 mw_3_228 mw_1_4) rfl rfl rfl (by decide +kernel) ⟨Nat.le_of_ble_eq_true rfl, Nat.le_of_ble_eq_true rfl⟩) ⟨sz_c, va_recv hK hP (ci := 3) (q0 := (69 + v2_17.toNatClampNeg)) rfl (gX_letter cs ad nu17_ (69 + v2_17.toNatClampNeg) hk25.1 hk25.2), sz_m hK hz⟩ rfl rfl hl.1 rfl (lv_room (Nat.le_of_ble_eq_true rfl)) dX8_beLike_34 ⟨Nat.zero_le _, Nat.zero_le _⟩) hS (fun q _ h => hFc q h) hFc (fun xi27 t H27 locs ht hvm hw27 hB hz1 hk1 hS => ?_)
        have hP : va_P (dC, dI) vwCl (wR 157 ad (EX cs ad) xi27) H27 := by rw [← ht]; exact hB
        obtain ⟨hfe27, ok, hw27, hkp27_0⟩ := hw27
        have hF := mi_let hF hfe27
        have kp28 : (∀ k f : Nat, Nat.testBit 470 (gpX k f) = true → xi27 k f = mu k f) := kp_t hkp27_0 (by decide) kq17_0
        refine lv_iinc (v := (v2_17 + 1)) (lv' := [(2, .int (v2_17 + 1)), (0, .ref (ad 19)), (1, .ref (ad 5))]) hx hb dX8_beLike_37 hl (k := 0) rfl rfl (by decide) rfl (fun ls hl => ?_)
        refine loc_gen (P := fun w9 => lv_has ls 3 [(2, .int w9), (0, .ref (ad 19)), (1, .ref (ad 5))]) (v2_17 + 1) hl (fun w29 hw29 hl => ?_)
        have hl : lv_has ls 3 [(2, .int w29), (0, .ref (ad 19)), (1, .ref (ad 5))] := hl
        have hF := mi_let hF hw29.symm
        have aw29 : w29.toInt = v2_17.toInt + 1 := by rw [← hw29]; first | exact va1 (Int.lt_of_le_of_lt h_v2_17.2 (by decide)) | exact va1 (by omega)
        refine lv_goto (tgt := 17) hx hb dX8_beLike_40 (by decide) ?_
        exact ih17 (w29) xi27 _ _ _ (by first | exact ms_up hm_17 aw29 h_v2_17.2 | exact ms_lt hm_17 (by omega) (by omega) | omega) (by first | exact rg_up aw29 h_v2_17 (by omega) | omega)  ok hP  kp28 hF hS (lv_sub hl [0, 1, 2] rfl)
  exact loop17 7 (0) nu1 _ _ _ (by have h80 : (0 : Int32).toInt = 0 := rfl; omega) (by have h80 : (0 : Int32).toInt = 0 := rfl; exact ⟨by omega, by omega⟩)  ok hP  kp2 hF hS hl
set_option maxHeartbeats 4000000 in
set_option maxRecDepth 100000 in
/-- sx_Standing_beLike_20_5 -/
theorem sx_Standing_beLike_20_5 (l : Launch) (dC : Nat → ClassId) (dI : Nat → Nat → Nat) (cs : Nat → ClassId) (ad : Nat → Nat) (mu : Nat → Nat → Int32) (ok : okR loX hiX mu) (H : Heap) (hP : va_P (dC, dI) vwCl (wR 157 ad (EX cs ad) mu) H) (hD0 : va_D (fun _ => True) (wR 157 ad (EX cs ad) mu)) : Met l yX8_beLike (wU yX8_beLike cX8_beLike 3 none) ({ frames := 1, cells := 0, slots := 0, locals := 60 }) (va_Pc [.ref (ad 20), .ref (ad 5)] (sz_P (dC, dI) vwCl (tyW cs) H)) (va_Qv (fun (xi : Nat → Nat → Int32) => xi = F_sx_Standing_beLike_20_5 mu ∧ okR loX hiX xi ∧ (True) ∧ (∀ k f : Nat, Nat.testBit 470 (gpX k f) = true → xi k f = mu k f)) (fun xi t => va_P (dC, dI) vwCl (wR 157 ad (EX cs ad) xi) t.heap) (va_A (wR 157 ad (EX cs ad) mu) H.size)) 0 0 (va_A (wR 157 ad (EX cs ad) mu) H.size) := by
  refine Met.ofW (cc := cX8_beLike) (maxL := 3) (ret := none) (by decide) rfl ?_
  intro p e s m args below meth c s₁ B hml hv
  obtain ⟨rfl, hh, hK, hz⟩ := hv
  have hx := B.exec
  have hb := B.bytes
  have hr := B.returns
  have hts := atoms_spec (ws := (wU yX8_beLike cX8_beLike 3 none)) B.pre
  have hown : s.vm.findClass RX8 = some m.cls := findClass_of_methodNamed B.named
  have hlocks := B.notSynchronized
  subst hh
  have hD := hD0.self (sz := s.heap.size)
  have hA : ∀ q : Nat, s.heap.size ≤ q → (va_A (wR 157 ad (EX cs ad) mu) s.heap.size) q := fun q h => Or.inr h
  have hS : va_S (va_A (wR 157 ad (EX cs ad) mu) s.heap.size) s.heap s.heap [] := va_S.rf
  have hl := lv_entry ([.ref (ad 20), .ref (ad 5)]) (n := 3) (Nat.le_of_ble_eq_true rfl)
  rw [lg_entry_eq]
  generalize (lg_sl ([.ref (ad 20), .ref (ad 5)]) ++ List.replicate (3 - (lg_sl ([.ref (ad 20), .ref (ad 5)])).length) Slot.unset).toArray = ls at hl ⊢
  have hl : lv_has ls 3 [(0, .ref (ad 20)), (1, .ref (ad 5))] := hl
  obtain ⟨fz, hfz⟩ : ∃ z, F_sx_Standing_beLike_20_5 mu = z := ⟨_, rfl⟩
  have hF := hfz
  unfold F_sx_Standing_beLike_20_5 at hF
  refine lv_aload_n hx hb dX8_beLike_0 rfl (lv_at hl 1 rfl) ?_
  refine va_get (D := (dC, dI)) (ci := 8) (v := .ref (ad 46)) (C := RX8) (T := TX8) (N := 6) hx hb hts inG8 hown hK hP 5 (gX_5 cs ad mu) rfl 0 (by decide) (hts _ (List.mem_cons_of_mem _ mw_1_103)) (fun _ h9 => h9) rfl dX8_beLike_1 ?_
  refine lv_iconst (v := 0) hx hb dX8_beLike_4 (by decide) ?_
  refine lv_aload_n hx hb dX8_beLike_5 rfl (lv_at hl 0 rfl) ?_
  refine va_get (D := (dC, dI)) (ci := 8) (v := .ref (ad 42)) (C := RX8) (T := TX8) (N := 6) hx hb hts inG8 hown hK hP 20 (gX_20 cs ad mu) rfl 0 (by decide) (hts _ (List.mem_cons_of_mem _ mw_1_103)) (fun _ h9 => h9) rfl dX8_beLike_6 ?_
  refine lv_iconst (v := 0) hx hb dX8_beLike_9 (by decide) ?_
  refine lv_bipush (v := 7) hx hb dX8_beLike_10 (by decide) ?_
  refine va_copyi hx hb (hml.trans hl.1.symm) hown (hts _ (List.mem_cons_of_mem _ mw_3_225)) (hts _ (List.mem_cons_of_mem _ mw_3_4)) (hts _ (List.mem_cons_of_mem _ mw_3_3)) (hts _ (List.mem_cons_of_mem _ mw_1_15)) hK hP (wR_D mu hD) hS 46 42 0 0 (gX_46 cs ad mu) (gX_42 cs ad mu) rfl rfl rfl (by decide) (by decide) (by decide) (by have ua : ((0 : Int32).toNatClampNeg : Int) = 0 := rfl; have ub : ((0 : Int32).toNatClampNeg : Int) = 0 := rfl; have uc : ((7 : Int32).toNatClampNeg : Int) = 7 := rfl; omega) (by have ua : ((0 : Int32).toNatClampNeg : Int) = 0 := rfl; have ub : ((0 : Int32).toNatClampNeg : Int) = 0 := rfl; have uc : ((7 : Int32).toNatClampNeg : Int) = 7 := rfl; omega) (fun _ _ => rfl) (Nat.le_of_ble_eq_true rfl) (Nat.le_of_ble_eq_true rfl) dX8_beLike_12 (fun H locs hP _ hS => ?_)
  refine wr_gen (va_cpy (mu 46) (mu 42) (0 : Int32).toNatClampNeg (0 : Int32).toNatClampNeg (7 : Int32).toNatClampNeg) hP (rfl) (fun nu1 hn1 hP => ?_)
  have hF := mi_let hF hn1.symm
  have ok := okR_cp ok hn1 (cX_46_42  )
  have kp2 : (∀ k f : Nat, Nat.testBit 470 (gpX k f) = true → nu1 k f = mu k f) := kp_c 5 hn1 (fun _ => rfl) (by decide) (fun _ _ _ => rfl)
  refine lv_iconst (v := 0) hx hb dX8_beLike_15 (by decide) ?_
  refine lv_istore_n (lv' := [(2, .int 0), (0, .ref (ad 20)), (1, .ref (ad 5))]) hx hb dX8_beLike_16 rfl hl (by decide) rfl (fun ls hl => ?_)
  have loop17 : ∀ (n17 : Nat) (v2_17 : Int32) (nu17_ : Nat → Nat → Int32) (H : Heap) (locs : List Loc) (ls : Array Slot), (4 + 1 - v2_17.toInt).toNat < n17 → (0 ≤ v2_17.toInt ∧ v2_17.toInt ≤ 4) → okR loX hiX nu17_ → va_P (dC, dI) vwCl (wR 157 ad (EX cs ad) nu17_) H → (∀ k f : Nat, Nat.testBit 470 (gpX k f) = true → nu17_ k f = mu k f) → L_sx_Standing_beLike_20_5_17_0 n17 v2_17 nu17_ = fz → va_S (va_A (wR 157 ad (EX cs ad) mu) s.heap.size) s.heap H locs → lv_has ls 3 [(2, .int v2_17), (0, .ref (ad 20)), (1, .ref (ad 5))] → W p l e (headSpec (wU yX8_beLike cX8_beLike 3 none) ({ frames := 1, cells := 0, slots := 0, locals := 60 })).room s m ([.ref (ad 20), .ref (ad 5)] : List Value).toArray below meth c H locs 0 0 (MQ below (va_Qv (fun (xi : Nat → Nat → Int32) => xi = F_sx_Standing_beLike_20_5 mu ∧ okR loX hiX xi ∧ (True) ∧ (∀ k f : Nat, Nat.testBit 470 (gpX k f) = true → xi k f = mu k f)) (fun xi t => va_P (dC, dI) vwCl (wR 157 ad (EX cs ad) xi) t.heap) (va_A (wR 157 ad (EX cs ad) mu) s.heap.size)) ([.ref (ad 20), .ref (ad 5)] : List Value).toArray s 0 0 (va_A (wR 157 ad (EX cs ad) mu) s.heap.size)) (F0 m 17 ls []) := by
    intro n17
    induction n17 with
    | zero => intro v2_17 nu17_ H locs ls hm; exact absurd hm (Nat.not_lt_zero _)
    | succ n17 ih17 =>
      intro v2_17 nu17_ H locs ls hm_17 h_v2_17 ok hP kq17_0 hF hS hl
      rw [L_sx_Standing_beLike_20_5_17_0] at hF
      refine lv_iload_n hx hb dX8_beLike_17 rfl (lv_at hl 0 rfl) ?_
      refine lv_iconst (v := 4) hx hb dX8_beLike_18 (by decide) ?_
      refine lv_icmp_ge (tgt := 43) hx hb dX8_beLike_19 (by decide) (fun c_3 => ?_) (fun c_3 => ?_)
      · have hF := (if_pos c_3).symm.trans hF
        have c_3 : 4 ≤ v2_17.toInt := il_le c_3
        refine lv_aload_n hx hb dX8_beLike_43 rfl (lv_at hl 1 rfl) ?_
        refine lv_aload_n hx hb dX8_beLike_44 rfl (lv_at hl 2 rfl) ?_
        refine va_get (D := (dC, dI)) (ci := 8) (v := .int (nu17_ 5 2)) (C := RX8) (T := TX8) (N := 6) hx hb hts inG8 hown hK hP 5 (gX_5 cs ad nu17_) rfl 2 (by decide) (hts _ (List.mem_cons_of_mem _ mw_1_113)) (fun _ h9 => h9) rfl dX8_beLike_45 ?_
        refine lv_topi (fun y4 ey4 => ?_)
        have hF := mi_let hF ey4
        have by4 : y4.toInt = (nu17_ 5 2).toInt := congrArg Int32.toInt ey4
        refine va_put (D := (dC, dI)) (ci := 8) (v := .int y4) (ty := .int) (C := RX8) (T := TX8) (N := 6) hx hb hts inG8 tyX8 tyX8_ok nmX8 hown hK hP (wR_D nu17_ hD) hS 20 (gX_20 cs ad nu17_) rfl 2 (by decide) (hts _ (List.mem_cons_of_mem _ mw_1_113)) (fun _ h9 => h9) rfl (by decide +kernel) rfl rfl (Nat.le_of_ble_eq_true rfl) dX8_beLike_48 (fun H locs hP _ hS => ?_)
        simp only [List.set_cons_succ, List.set_cons_zero] at hP
        refine wr_gen (upd (nu17_ 20) 2 y4) hP ((hX_20_2 cs ad _ _)) (fun nu5 hn5 hP => ?_)
        have hF := mi_let hF hn5.symm
        have ok := tX_20_2 ok hn5
        have ez6 : y4 = nu5 5 2 := ey4.trans (congrFun (up_k hn5 (by decide)) 2).symm
        have kp7 : (∀ k f : Nat, Nat.testBit 470 (gpX k f) = true → nu5 k f = mu k f) := kp_c 5 hn5 (fun _ => rfl) (by decide) kq17_0
        have ez8 : y4 = nu5 20 2 := up_v hn5
        refine lv_aload_n hx hb dX8_beLike_51 rfl (lv_at hl 1 rfl) ?_
        refine lv_aload_n hx hb dX8_beLike_52 rfl (lv_at hl 2 rfl) ?_
        refine va_get (D := (dC, dI)) (ci := 8) (v := .int (nu5 5 3)) (C := RX8) (T := TX8) (N := 6) hx hb hts inG8 hown hK hP 5 (gX_5 cs ad nu5) rfl 3 (by decide) (hts _ (List.mem_cons_of_mem _ mw_1_120)) (fun _ h9 => h9) rfl dX8_beLike_53 ?_
        refine lv_topi (fun y9 ey9 => ?_)
        have hF := mi_let hF ey9
        have by9 : y9.toInt = (nu5 5 3).toInt := congrArg Int32.toInt ey9
        refine va_put (D := (dC, dI)) (ci := 8) (v := .int y9) (ty := .int) (C := RX8) (T := TX8) (N := 6) hx hb hts inG8 tyX8 tyX8_ok nmX8 hown hK hP (wR_D nu5 hD) hS 20 (gX_20 cs ad nu5) rfl 3 (by decide) (hts _ (List.mem_cons_of_mem _ mw_1_120)) (fun _ h9 => h9) rfl (by decide +kernel) rfl rfl (Nat.le_of_ble_eq_true rfl) dX8_beLike_56 (fun H locs hP _ hS => ?_)
        simp only [List.set_cons_succ, List.set_cons_zero] at hP
        refine wr_gen (upd (nu5 20) 3 y9) hP ((hX_20_3 cs ad _ _)) (fun nu10 hn10 hP => ?_)
        have hF := mi_let hF hn10.symm
        have ok := tX_20_3 ok hn10
        have ez11 : y4 = nu10 5 2 := ez6.trans (congrFun (up_k hn10 (by decide)) 2).symm
        have ez12 : y4 = nu10 20 2 := ez8.trans (up_f hn10 (by decide)).symm
        have ez13 : y9 = nu10 5 3 := ey9.trans (congrFun (up_k hn10 (by decide)) 3).symm
        have kp14 : (∀ k f : Nat, Nat.testBit 470 (gpX k f) = true → nu10 k f = mu k f) := kp_c 5 hn10 (fun _ => rfl) (by decide) kp7
        have ez15 : y9 = nu10 20 3 := up_v hn10
        refine lv_aload_n hx hb dX8_beLike_59 rfl (lv_at hl 1 rfl) ?_
        refine lv_aload_n hx hb dX8_beLike_60 rfl (lv_at hl 2 rfl) ?_
        refine va_get (D := (dC, dI)) (ci := 8) (v := .int (nu10 5 4)) (C := RX8) (T := TX8) (N := 6) hx hb hts inG8 hown hK hP 5 (gX_5 cs ad nu10) rfl 4 (by decide) (hts _ (List.mem_cons_of_mem _ mw_1_125)) (fun _ h9 => h9) rfl dX8_beLike_61 ?_
        refine lv_topi (fun y16 ey16 => ?_)
        have hF := mi_let hF ey16
        have by16 : y16.toInt = (nu10 5 4).toInt := congrArg Int32.toInt ey16
        have gy16 : 0 ≤ y16.toInt ∧ y16.toInt ≤ 4 := by rw [ey16]; exact rX_5_4 ok
        refine va_put (D := (dC, dI)) (ci := 8) (v := .int y16) (ty := .int) (C := RX8) (T := TX8) (N := 6) hx hb hts inG8 tyX8 tyX8_ok nmX8 hown hK hP (wR_D nu10 hD) hS 20 (gX_20 cs ad nu10) rfl 4 (by decide) (hts _ (List.mem_cons_of_mem _ mw_1_125)) (fun _ h9 => h9) rfl (by decide +kernel) rfl rfl (Nat.le_of_ble_eq_true rfl) dX8_beLike_64 (fun H locs hP _ hS => ?_)
        simp only [List.set_cons_succ, List.set_cons_zero] at hP
        refine wr_gen (upd (nu10 20) 4 y16) hP ((hX_20_4 cs ad _ _)) (fun nu17 hn17 hP => ?_)
        have hF := mi_let hF hn17.symm
        have ok := tX_20_4 ok hn17 (by omega)
        have ez18 : y4 = nu17 5 2 := ez11.trans (congrFun (up_k hn17 (by decide)) 2).symm
        have ez19 : y4 = nu17 20 2 := ez12.trans (up_f hn17 (by decide)).symm
        have ez20 : y9 = nu17 5 3 := ez13.trans (congrFun (up_k hn17 (by decide)) 3).symm
        have ez21 : y9 = nu17 20 3 := ez15.trans (up_f hn17 (by decide)).symm
        have ez22 : y16 = nu17 5 4 := ey16.trans (congrFun (up_k hn17 (by decide)) 4).symm
        have kp23 : (∀ k f : Nat, Nat.testBit 470 (gpX k f) = true → nu17 k f = mu k f) := kp_c 5 hn17 (fun _ => rfl) (by decide) kp14
        have ez24 : y16 = nu17 20 4 := up_v hn17
        exact W.vret hx hb hr (fun t ht hW => ⟨⟨nu17, rfl, ⟨hF.trans hfz.symm, ok, trivial, kp23⟩, by first | (subst ht; exact hP) | (rw [ht]; exact hP) | (show va_P (dC, dI) vwCl (wR 157 ad (EX cs ad) nu17) t.heap; rw [ht]; exact hP)⟩, hS.F ht⟩) hS.2.2 dX8_beLike_67
      · have hF := (if_neg c_3).symm.trans hF
        have c_3 : v2_17.toInt < 4 := il_nle c_3
        refine lv_aload_n hx hb dX8_beLike_22 rfl (lv_at hl 1 rfl) ?_
        refine va_get (D := (dC, dI)) (ci := 8) (v := .ref (ad 45)) (C := RX8) (T := TX8) (N := 6) hx hb hts inG8 hown hK hP 20 (gX_20 cs ad nu17_) rfl 1 (by decide) (hts _ (List.mem_cons_of_mem _ mw_1_109)) (fun _ h9 => h9) rfl dX8_beLike_23 ?_
        refine lv_iload_n hx hb dX8_beLike_26 rfl (lv_at hl 0 rfl) ?_
        have hx25 : 0 ≤ v2_17.toInt ∧ v2_17.toInt < ((4 : Nat) : Int) := ⟨by omega, by omega⟩
        refine va_aldq hx hb hK hP 45 5 (gX_45 cs ad nu17_) rfl (show vp_in v2_17 4 from vi_of hx25.1 hx25.2) dX8_beLike_27 ?_
        have hk25 : 73 ≤ (73 + v2_17.toNatClampNeg) ∧ (73 + v2_17.toNatClampNeg) < 77 := ix_of hx25
        have hk25 : 61 ≤ (73 + v2_17.toNatClampNeg) ∧ (73 + v2_17.toNatClampNeg) < 77 := ⟨Nat.le_trans (by decide) hk25.1, Nat.lt_of_lt_of_le hk25.2 (by decide)⟩
        refine lq_v (.ref (ad (73 + v2_17.toNatClampNeg))) rfl ?_
        refine lv_aload_n hx hb dX8_beLike_28 rfl (lv_at hl 2 rfl) ?_
        refine va_get (D := (dC, dI)) (ci := 8) (v := .ref (ad 47)) (C := RX8) (T := TX8) (N := 6) hx hb hts inG8 hown hK hP 5 (gX_5 cs ad nu17_) rfl 1 (by decide) (hts _ (List.mem_cons_of_mem _ mw_1_109)) (fun _ h9 => h9) rfl dX8_beLike_29 ?_
        refine lv_iload_n hx hb dX8_beLike_32 rfl (lv_at hl 0 rfl) ?_
        have hx26 : 0 ≤ v2_17.toInt ∧ v2_17.toInt < ((4 : Nat) : Int) := ⟨by omega, by omega⟩
        refine va_aldq hx hb hK hP 47 5 (gX_47 cs ad nu17_) rfl (show vp_in v2_17 4 from vi_of hx26.1 hx26.2) dX8_beLike_33 ?_
        have hk26 : 61 ≤ (61 + v2_17.toNatClampNeg) ∧ (61 + v2_17.toNatClampNeg) < 65 := ix_of hx26
        have hk26 : 61 ≤ (61 + v2_17.toNatClampNeg) ∧ (61 + v2_17.toNatClampNeg) < 77 := ⟨Nat.le_trans (by decide) hk26.1, Nat.lt_of_lt_of_le hk26.2 (by decide)⟩
        refine lq_v (.ref (ad (61 + v2_17.toNatClampNeg))) rfl ?_
        have hFc := fr_all (wR_D nu17_ hD) hS hA
        refine va_callv (va_runV (As := [.ref (ad (61 + v2_17.toNatClampNeg))]) (rest := []) ⟨hx, hb, hml, hown, hts⟩ (sx_Letter_beLike l dC dI cs ad nu17_ ok H hP ((wR_D nu17_ hD).weaken (fun _ _ _ _ => trivial)) (73 + v2_17.toNatClampNeg) hk25.1 hk25.2 (61 + v2_17.toNatClampNeg) hk26.1 hk26.2) (cwV 1 hts (wU_V mw_3_229 mw_3_226 mw_3_227 mw_3_228 mw_1_4) rfl rfl rfl (by decide +kernel) ⟨Nat.le_of_ble_eq_true rfl, Nat.le_of_ble_eq_true rfl⟩) ⟨sz_c, va_recv hK hP (ci := 3) (q0 := (73 + v2_17.toNatClampNeg)) rfl (gX_letter cs ad nu17_ (73 + v2_17.toNatClampNeg) hk25.1 hk25.2), sz_m hK hz⟩ rfl rfl hl.1 rfl (lv_room (Nat.le_of_ble_eq_true rfl)) dX8_beLike_34 ⟨Nat.zero_le _, Nat.zero_le _⟩) hS (fun q _ h => hFc q h) hFc (fun xi27 t H27 locs ht hvm hw27 hB hz1 hk1 hS => ?_)
        have hP : va_P (dC, dI) vwCl (wR 157 ad (EX cs ad) xi27) H27 := by rw [← ht]; exact hB
        obtain ⟨hfe27, ok, hw27, hkp27_0⟩ := hw27
        have hF := mi_let hF hfe27
        have kp28 : (∀ k f : Nat, Nat.testBit 470 (gpX k f) = true → xi27 k f = mu k f) := kp_t hkp27_0 (by decide) kq17_0
        refine lv_iinc (v := (v2_17 + 1)) (lv' := [(2, .int (v2_17 + 1)), (0, .ref (ad 20)), (1, .ref (ad 5))]) hx hb dX8_beLike_37 hl (k := 0) rfl rfl (by decide) rfl (fun ls hl => ?_)
        refine loc_gen (P := fun w9 => lv_has ls 3 [(2, .int w9), (0, .ref (ad 20)), (1, .ref (ad 5))]) (v2_17 + 1) hl (fun w29 hw29 hl => ?_)
        have hl : lv_has ls 3 [(2, .int w29), (0, .ref (ad 20)), (1, .ref (ad 5))] := hl
        have hF := mi_let hF hw29.symm
        have aw29 : w29.toInt = v2_17.toInt + 1 := by rw [← hw29]; first | exact va1 (Int.lt_of_le_of_lt h_v2_17.2 (by decide)) | exact va1 (by omega)
        refine lv_goto (tgt := 17) hx hb dX8_beLike_40 (by decide) ?_
        exact ih17 (w29) xi27 _ _ _ (by first | exact ms_up hm_17 aw29 h_v2_17.2 | exact ms_lt hm_17 (by omega) (by omega) | omega) (by first | exact rg_up aw29 h_v2_17 (by omega) | omega)  ok hP  kp28 hF hS (lv_sub hl [0, 1, 2] rfl)
  exact loop17 7 (0) nu1 _ _ _ (by have h80 : (0 : Int32).toInt = 0 := rfl; omega) (by have h80 : (0 : Int32).toInt = 0 := rfl; exact ⟨by omega, by omega⟩)  ok hP  kp2 hF hS hl
theorem mw_3_145 : (Cond.code yX11_isPair cX11_isPair 3 (some .boolean) : Cond) ∈ lw_good := lg_at 3 145 rfl rfl
theorem mw_3_142 : (Cond.methodLink RX11 182 yX11_isPair : Cond) ∈ lw_good := lg_at 3 142 rfl rfl
theorem mw_3_144 : (Cond.instanceMethod yX11_isPair : Cond) ∈ lw_good := lg_at 3 144 rfl rfl
theorem mw_0_7 : (Cond.selects RX11 yX11_isPair yX11_isPair : Cond) ∈ lw_good := lg_at 0 7 rfl rfl
theorem mw_3_149 : (Cond.code yX3_begin cX3_begin 6 none : Cond) ∈ lw_good := lg_at 3 149 rfl rfl
theorem mw_3_146 : (Cond.methodLink RX11 195 yX3_begin : Cond) ∈ lw_good := lg_at 3 146 rfl rfl
theorem mw_3_147 : (Cond.instanceMethod yX3_begin : Cond) ∈ lw_good := lg_at 3 147 rfl rfl
theorem mw_3_148 : (Cond.selects RX3 yX3_begin yX3_begin : Cond) ∈ lw_good := lg_at 3 148 rfl rfl
theorem mw_3_158 : (Cond.methodLink RX11 205 yX10_buyersOf : Cond) ∈ lw_good := lg_at 3 158 rfl rfl
theorem mw_3_178 : (Cond.code yX2_isFull cX2_isFull 1 (some .boolean) : Cond) ∈ lw_good := lg_at 3 178 rfl rfl
theorem mw_3_175 : (Cond.methodLink RX11 212 yX2_isFull : Cond) ∈ lw_good := lg_at 3 175 rfl rfl
theorem mw_3_176 : (Cond.instanceMethod yX2_isFull : Cond) ∈ lw_good := lg_at 3 176 rfl rfl
theorem mw_3_177 : (Cond.selects RX2 yX2_isFull yX2_isFull : Cond) ∈ lw_good := lg_at 3 177 rfl rfl
theorem mw_1_6 : (Cond.initialized RX2 : Cond) ∈ lw_good := lg_at 1 6 rfl rfl
theorem mw_3_182 : (Cond.code yX2_enterSale cX2_enterSale 7 (some .int) : Cond) ∈ lw_good := lg_at 3 182 rfl rfl
theorem mw_3_179 : (Cond.methodLink RX11 215 yX2_enterSale : Cond) ∈ lw_good := lg_at 3 179 rfl rfl
theorem mw_3_180 : (Cond.instanceMethod yX2_enterSale : Cond) ∈ lw_good := lg_at 3 180 rfl rfl
theorem mw_3_181 : (Cond.selects RX2 yX2_enterSale yX2_enterSale : Cond) ∈ lw_good := lg_at 3 181 rfl rfl
theorem mw_3_197 : (Cond.methodLink RX11 228 yX3_fact : Cond) ∈ lw_good := lg_at 3 197 rfl rfl
theorem mw_3_213 : (Cond.code yX2_undoLast cX2_undoLast 4 none : Cond) ∈ lw_good := lg_at 3 213 rfl rfl
theorem mw_3_210 : (Cond.methodLink RX11 231 yX2_undoLast : Cond) ∈ lw_good := lg_at 3 210 rfl rfl
theorem mw_3_211 : (Cond.instanceMethod yX2_undoLast : Cond) ∈ lw_good := lg_at 3 211 rfl rfl
theorem mw_3_212 : (Cond.selects RX2 yX2_undoLast yX2_undoLast : Cond) ∈ lw_good := lg_at 3 212 rfl rfl
theorem mw_3_220 : (Cond.code yX11_isPlace cX11_isPlace 1 (some .boolean) : Cond) ∈ lw_good := lg_at 3 220 rfl rfl
theorem mw_3_218 : (Cond.methodLink RX11 234 yX11_isPlace : Cond) ∈ lw_good := lg_at 3 218 rfl rfl
theorem mw_3_219 : (Cond.static yX11_isPlace : Cond) ∈ lw_good := lg_at 3 219 rfl rfl
theorem mw_3_224 : (Cond.code yX8_beLike cX8_beLike 3 none : Cond) ∈ lw_good := lg_at 3 224 rfl rfl
theorem mw_3_221 : (Cond.methodLink RX11 237 yX8_beLike : Cond) ∈ lw_good := lg_at 3 221 rfl rfl
theorem mw_3_222 : (Cond.instanceMethod yX8_beLike : Cond) ∈ lw_good := lg_at 3 222 rfl rfl
theorem mw_3_223 : (Cond.selects RX8 yX8_beLike yX8_beLike : Cond) ∈ lw_good := lg_at 3 223 rfl rfl
theorem mw_1_3 : (Cond.initialized RX8 : Cond) ∈ lw_good := lg_at 1 3 rfl rfl
theorem mw_3_77 : (Cond.methodLink RX11 145 yX10_bearerFact : Cond) ∈ lw_good := lg_at 3 77 rfl rfl
theorem mw_3_102 : (Cond.methodLink RX11 151 yX11_isOfKind : Cond) ∈ lw_good := lg_at 3 102 rfl rfl
theorem mw_3_120 : (Cond.code yX10_paidForUnread cX10_paidForUnread 4 (some .int) : Cond) ∈ lw_good := lg_at 3 120 rfl rfl
theorem mw_3_117 : (Cond.methodLink RX11 163 yX10_paidForUnread : Cond) ∈ lw_good := lg_at 3 117 rfl rfl
theorem mw_3_118 : (Cond.instanceMethod yX10_paidForUnread : Cond) ∈ lw_good := lg_at 3 118 rfl rfl
theorem mw_3_119 : (Cond.selects RX10 yX10_paidForUnread yX10_paidForUnread : Cond) ∈ lw_good := lg_at 3 119 rfl rfl
theorem mw_3_111 : (Cond.code yX10_friendsNear cX10_friendsNear 5 (some .int) : Cond) ∈ lw_good := lg_at 3 111 rfl rfl
theorem mw_3_108 : (Cond.methodLink RX11 157 yX10_friendsNear : Cond) ∈ lw_good := lg_at 3 108 rfl rfl
theorem mw_3_109 : (Cond.instanceMethod yX10_friendsNear : Cond) ∈ lw_good := lg_at 3 109 rfl rfl
theorem mw_3_110 : (Cond.selects RX10 yX10_friendsNear yX10_friendsNear : Cond) ∈ lw_good := lg_at 3 110 rfl rfl
theorem mw_3_116 : (Cond.code yX10_unreadTo cX10_unreadTo 4 (some .int) : Cond) ∈ lw_good := lg_at 3 116 rfl rfl
theorem mw_3_113 : (Cond.methodLink RX11 160 yX10_unreadTo : Cond) ∈ lw_good := lg_at 3 113 rfl rfl
theorem mw_3_114 : (Cond.instanceMethod yX10_unreadTo : Cond) ∈ lw_good := lg_at 3 114 rfl rfl
theorem mw_3_115 : (Cond.selects RX10 yX10_unreadTo yX10_unreadTo : Cond) ∈ lw_good := lg_at 3 115 rfl rfl
theorem mw_4_154 : (Cond.code yX2_gainOf cX2_gainOf 4 (some .int) : Cond) ∈ lw_good := lg_at 4 154 rfl rfl
theorem mw_4_151 : (Cond.methodLink RX11 317 yX2_gainOf : Cond) ∈ lw_good := lg_at 4 151 rfl rfl
theorem mw_4_152 : (Cond.instanceMethod yX2_gainOf : Cond) ∈ lw_good := lg_at 4 152 rfl rfl
theorem mw_4_153 : (Cond.selects RX2 yX2_gainOf yX2_gainOf : Cond) ∈ lw_good := lg_at 4 153 rfl rfl
theorem mw_4_1 : (Cond.code yX11_refusedRoute cX11_refusedRoute 4 (some .int) : Cond) ∈ lw_good := lg_at 4 1 rfl rfl
theorem mw_3_238 : (Cond.methodLink RX11 241 yX11_refusedRoute : Cond) ∈ lw_good := lg_at 3 238 rfl rfl
theorem mw_4_0 : (Cond.instanceMethod yX11_refusedRoute : Cond) ∈ lw_good := lg_at 4 0 rfl rfl
theorem mw_0_9 : (Cond.selects RX11 yX11_refusedRoute yX11_refusedRoute : Cond) ∈ lw_good := lg_at 0 9 rfl rfl
theorem mw_4_114 : (Cond.code yX10_worthTo cX10_worthTo 6 (some .int) : Cond) ∈ lw_good := lg_at 4 114 rfl rfl
theorem mw_4_111 : (Cond.methodLink RX11 299 yX10_worthTo : Cond) ∈ lw_good := lg_at 4 111 rfl rfl
theorem mw_4_112 : (Cond.instanceMethod yX10_worthTo : Cond) ∈ lw_good := lg_at 4 112 rfl rfl
theorem mw_4_113 : (Cond.selects RX10 yX10_worthTo yX10_worthTo : Cond) ∈ lw_good := lg_at 4 113 rfl rfl
theorem mw_4_129 : (Cond.code yX10_buyableBy cX10_buyableBy 4 (some .int) : Cond) ∈ lw_good := lg_at 4 129 rfl rfl
theorem mw_4_126 : (Cond.methodLink RX11 303 yX10_buyableBy : Cond) ∈ lw_good := lg_at 4 126 rfl rfl
theorem mw_4_127 : (Cond.instanceMethod yX10_buyableBy : Cond) ∈ lw_good := lg_at 4 127 rfl rfl
theorem mw_4_128 : (Cond.selects RX10 yX10_buyableBy yX10_buyableBy : Cond) ∈ lw_good := lg_at 4 128 rfl rfl
theorem mw_4_98 : (Cond.methodLink RX11 306 yJ6_bitCount_0f7a4 : Cond) ∈ lw_good := lg_at 4 98 rfl rfl
theorem mw_4_134 : (Cond.code yX10_priceOfAll cX10_priceOfAll 4 (some .int) : Cond) ∈ lw_good := lg_at 4 134 rfl rfl
theorem mw_4_131 : (Cond.methodLink RX11 311 yX10_priceOfAll : Cond) ∈ lw_good := lg_at 4 131 rfl rfl
theorem mw_4_132 : (Cond.instanceMethod yX10_priceOfAll : Cond) ∈ lw_good := lg_at 4 132 rfl rfl
theorem mw_4_133 : (Cond.selects RX10 yX10_priceOfAll yX10_priceOfAll : Cond) ∈ lw_good := lg_at 4 133 rfl rfl
theorem mw_4_207 : (Cond.code yX10_richestPurse cX10_richestPurse 4 (some .long) : Cond) ∈ lw_good := lg_at 4 207 rfl rfl
theorem mw_4_204 : (Cond.methodLink RX11 345 yX10_richestPurse : Cond) ∈ lw_good := lg_at 4 204 rfl rfl
theorem mw_4_205 : (Cond.instanceMethod yX10_richestPurse : Cond) ∈ lw_good := lg_at 4 205 rfl rfl
theorem mw_4_206 : (Cond.selects RX10 yX10_richestPurse yX10_richestPurse : Cond) ∈ lw_good := lg_at 4 206 rfl rfl
theorem mw_4_214 : (Cond.code yX10_allPurses cX10_allPurses 4 (some .long) : Cond) ∈ lw_good := lg_at 4 214 rfl rfl
theorem mw_4_211 : (Cond.methodLink RX11 349 yX10_allPurses : Cond) ∈ lw_good := lg_at 4 211 rfl rfl
theorem mw_4_212 : (Cond.instanceMethod yX10_allPurses : Cond) ∈ lw_good := lg_at 4 212 rfl rfl
theorem mw_4_213 : (Cond.selects RX10 yX10_allPurses yX10_allPurses : Cond) ∈ lw_good := lg_at 4 213 rfl rfl
theorem mw_4_217 : (Cond.code yX11_commonDivisor cX11_commonDivisor 11 (some .long) : Cond) ∈ lw_good := lg_at 4 217 rfl rfl
theorem mw_4_215 : (Cond.methodLink RX11 352 yX11_commonDivisor : Cond) ∈ lw_good := lg_at 4 215 rfl rfl
theorem mw_4_216 : (Cond.static yX11_commonDivisor : Cond) ∈ lw_good := lg_at 4 216 rfl rfl
theorem mw_4_229 : (Cond.code yX11_rowsThere cX11_rowsThere 3 (some .int) : Cond) ∈ lw_good := lg_at 4 229 rfl rfl
theorem mw_4_226 : (Cond.methodLink RX11 356 yX11_rowsThere : Cond) ∈ lw_good := lg_at 4 226 rfl rfl
theorem mw_4_228 : (Cond.instanceMethod yX11_rowsThere : Cond) ∈ lw_good := lg_at 4 228 rfl rfl
theorem mw_0_23 : (Cond.selects RX11 yX11_rowsThere yX11_rowsThere : Cond) ∈ lw_good := lg_at 0 23 rfl rfl
theorem mw_4_233 : (Cond.code yX11_textsThere cX11_textsThere 3 (some .int) : Cond) ∈ lw_good := lg_at 4 233 rfl rfl
theorem mw_4_230 : (Cond.methodLink RX11 360 yX11_textsThere : Cond) ∈ lw_good := lg_at 4 230 rfl rfl
theorem mw_4_232 : (Cond.instanceMethod yX11_textsThere : Cond) ∈ lw_good := lg_at 4 232 rfl rfl
theorem mw_0_24 : (Cond.selects RX11 yX11_textsThere yX11_textsThere : Cond) ∈ lw_good := lg_at 0 24 rfl rfl
theorem mw_4_237 : (Cond.code yX11_townsKept cX11_townsKept 3 (some .int) : Cond) ∈ lw_good := lg_at 4 237 rfl rfl
theorem mw_4_234 : (Cond.methodLink RX11 363 yX11_townsKept : Cond) ∈ lw_good := lg_at 4 234 rfl rfl
theorem mw_4_236 : (Cond.instanceMethod yX11_townsKept : Cond) ∈ lw_good := lg_at 4 236 rfl rfl
theorem mw_0_25 : (Cond.selects RX11 yX11_townsKept yX11_townsKept : Cond) ∈ lw_good := lg_at 0 25 rfl rfl
theorem mw_5_10 : (Cond.constantLong RX11 369 17 : Cond) ∈ lw_good := lg_at 5 10 rfl rfl
theorem mw_5_16 : (Cond.code yX10_digestOn cX10_digestOn 7 (some .long) : Cond) ∈ lw_good := lg_at 5 16 rfl rfl
theorem mw_5_13 : (Cond.methodLink RX11 376 yX10_digestOn : Cond) ∈ lw_good := lg_at 5 13 rfl rfl
theorem mw_5_14 : (Cond.instanceMethod yX10_digestOn : Cond) ∈ lw_good := lg_at 5 14 rfl rfl
theorem mw_5_15 : (Cond.selects RX10 yX10_digestOn yX10_digestOn : Cond) ∈ lw_good := lg_at 5 15 rfl rfl
theorem mw_5_33 : (Cond.code yX9_digestOn cX9_digestOn 6 (some .long) : Cond) ∈ lw_good := lg_at 5 33 rfl rfl
theorem mw_5_30 : (Cond.methodLink RX11 381 yX9_digestOn : Cond) ∈ lw_good := lg_at 5 30 rfl rfl
theorem mw_5_31 : (Cond.instanceMethod yX9_digestOn : Cond) ∈ lw_good := lg_at 5 31 rfl rfl
theorem mw_5_32 : (Cond.selects RX9 yX9_digestOn yX9_digestOn : Cond) ∈ lw_good := lg_at 5 32 rfl rfl
theorem mw_5_28 : (Cond.code yX6_digestOn cX6_digestOn 6 (some .long) : Cond) ∈ lw_good := lg_at 5 28 rfl rfl
theorem mw_5_25 : (Cond.methodLink RX11 380 yX6_digestOn : Cond) ∈ lw_good := lg_at 5 25 rfl rfl
theorem mw_5_26 : (Cond.instanceMethod yX6_digestOn : Cond) ∈ lw_good := lg_at 5 26 rfl rfl
theorem mw_5_27 : (Cond.selects RX6 yX6_digestOn yX6_digestOn : Cond) ∈ lw_good := lg_at 5 27 rfl rfl
theorem mw_5_11 : (Cond.constantLong RX11 371 31 : Cond) ∈ lw_good := lg_at 5 11 rfl rfl
theorem mw_4_225 : (Cond.code yX11_count cX11_count 2 (some .int) : Cond) ∈ lw_good := lg_at 4 225 rfl rfl
theorem mw_5_12 : (Cond.methodLink RX11 373 yX11_count : Cond) ∈ lw_good := lg_at 5 12 rfl rfl
theorem mw_4_223 : (Cond.instanceMethod yX11_count : Cond) ∈ lw_good := lg_at 4 223 rfl rfl
theorem mw_4_224 : (Cond.selects RX11 yX11_count yX11_count : Cond) ∈ lw_good := lg_at 4 224 rfl rfl
theorem mw_4_191 : (Cond.constantLong RX11 338 2147483647 : Cond) ∈ lw_good := lg_at 4 191 rfl rfl
theorem mw_4_192 : (Cond.constantLong RX11 340 48271 : Cond) ∈ lw_good := lg_at 4 192 rfl rfl
theorem mw_4_195 : (Cond.code yX11_bitAt cX11_bitAt 4 (some .int) : Cond) ∈ lw_good := lg_at 4 195 rfl rfl
theorem mw_4_193 : (Cond.methodLink RX11 342 yX11_bitAt : Cond) ∈ lw_good := lg_at 4 193 rfl rfl
theorem mw_4_194 : (Cond.static yX11_bitAt : Cond) ∈ lw_good := lg_at 4 194 rfl rfl
theorem hX_18_5 (cs : Nat → ClassId) (ad : Nat → Nat) (g : Nat → Int32) (v : Int32) : EX cs ad 18 (upd g 5 v) = .inr (8, [.ref (ad 40), .ref (ad 43), .int (g 2), .int (g 3), .int (g 4), .int v]) := by
  rfl
theorem tX_18_5 {mu : Nat → Nat → Int32} (ok : okR loX hiX mu) {nu : Nat → Nat → Int32} {v : Int32} (hn : va_up mu 18 (upd (mu 18) 5 v) = nu) (hv : 0 ≤ v.toInt ∧ v.toInt ≤ 1) : okR loX hiX nu := by
  subst hn
  exact okR_up ok 18 5 v hv.1 hv.2
theorem hX_19_5 (cs : Nat → ClassId) (ad : Nat → Nat) (g : Nat → Int32) (v : Int32) : EX cs ad 19 (upd g 5 v) = .inr (8, [.ref (ad 41), .ref (ad 44), .int (g 2), .int (g 3), .int (g 4), .int v]) := by
  rfl
theorem tX_19_5 {mu : Nat → Nat → Int32} (ok : okR loX hiX mu) {nu : Nat → Nat → Int32} {v : Int32} (hn : va_up mu 19 (upd (mu 19) 5 v) = nu) (hv : 0 ≤ v.toInt ∧ v.toInt ≤ 1) : okR loX hiX nu := by
  subst hn
  exact okR_up ok 19 5 v hv.1 hv.2
theorem hX_20_5 (cs : Nat → ClassId) (ad : Nat → Nat) (g : Nat → Int32) (v : Int32) : EX cs ad 20 (upd g 5 v) = .inr (8, [.ref (ad 42), .ref (ad 45), .int (g 2), .int (g 3), .int (g 4), .int v]) := by
  rfl
theorem tX_20_5 {mu : Nat → Nat → Int32} (ok : okR loX hiX mu) {nu : Nat → Nat → Int32} {v : Int32} (hn : va_up mu 20 (upd (mu 20) 5 v) = nu) (hv : 0 ≤ v.toInt ∧ v.toInt ≤ 1) : okR loX hiX nu := by
  subst hn
  exact okR_up ok 20 5 v hv.1 hv.2
theorem rX_18_5 {mu : Nat → Nat → Int32} (ok : okR loX hiX mu) : 0 ≤ (mu 18 5).toInt ∧ (mu 18 5).toInt ≤ 1 := ok 18 5
theorem rX_19_5 {mu : Nat → Nat → Int32} (ok : okR loX hiX mu) : 0 ≤ (mu 19 5).toInt ∧ (mu 19 5).toInt ≤ 1 := ok 19 5
theorem rX_20_5 {mu : Nat → Nat → Int32} (ok : okR loX hiX mu) : 0 ≤ (mu 20 5).toInt ∧ (mu 20 5).toInt ≤ 1 := ok 20 5
