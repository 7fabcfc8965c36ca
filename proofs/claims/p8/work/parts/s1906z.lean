set_option maxHeartbeats 4000000 in
set_option maxRecDepth 100000 in
/-- sx_Standing_beLike_5_18 -/
theorem sx_Standing_beLike_5_18 (l : Launch) (dC : Nat → ClassId) (dI : Nat → Nat → Nat) (cs : Nat → ClassId) (ad : Nat → Nat) (mu : Nat → Nat → Int32) (ok : okR loX hiX mu) (H : Heap) (hP : va_P (dC, dI) vwCl (wR 157 ad (EX cs ad) mu) H) (hD0 : va_D (fun _ => True) (wR 157 ad (EX cs ad) mu)) : Met l yX8_beLike (wU yX8_beLike cX8_beLike 3 none) ({ frames := 1, cells := 0, slots := 0, locals := 60 }) (va_Pc [.ref (ad 5), .ref (ad 18)] (sz_P (dC, dI) vwCl (tyW cs) H)) (va_Qv (fun (xi : Nat → Nat → Int32) => okR loX hiX xi ∧ (True) ∧ True) (fun xi t => va_P (dC, dI) vwCl (wR 157 ad (EX cs ad) xi) t.heap) (va_A (wR 157 ad (EX cs ad) mu) H.size)) 0 0 (va_A (wR 157 ad (EX cs ad) mu) H.size) := by
  refine Met.ofW (cc := cX8_beLike) (maxL := 3) (ret := none) (by decide) rfl ?_
  intro p e s m args below meth c s₁ B hml hv
  obtain ⟨rfl, hh, hK, hz⟩ := hv
  have hx := B.exec
  have hb := B.bytes
  have hr := B.returns
  have hts := atoms_spec (ws := (wU yX8_beLike cX8_beLike 3 none)) B.pre
  have hown : s.vm.findClass RX8 = some m.cls := findClass_of_methodNamed B.named
  have hlocks := B.notSynchronized
  subst hh
  have hD := hD0.self (sz := s.heap.size)
  have hA : ∀ q : Nat, s.heap.size ≤ q → (va_A (wR 157 ad (EX cs ad) mu) s.heap.size) q := fun q h => Or.inr h
  have hS : va_S (va_A (wR 157 ad (EX cs ad) mu) s.heap.size) s.heap s.heap [] := va_S.rf
  have hl := lv_entry ([.ref (ad 5), .ref (ad 18)]) (n := 3) (Nat.le_of_ble_eq_true rfl)
  rw [lg_entry_eq]
  generalize (lg_sl ([.ref (ad 5), .ref (ad 18)]) ++ List.replicate (3 - (lg_sl ([.ref (ad 5), .ref (ad 18)])).length) Slot.unset).toArray = ls at hl ⊢
  have hl : lv_has ls 3 [(0, .ref (ad 5)), (1, .ref (ad 18))] := hl
  refine lv_aload_n hx hb dX8_beLike_0 rfl (lv_at hl 1 rfl) ?_
  refine va_get (D := (dC, dI)) (ci := 8) (v := .ref (ad 40)) (C := RX8) (T := TX8) (N := 6) hx hb hts inG8 hown hK hP 18 (gX_18 cs ad mu) rfl 0 (by decide) (hts _ (List.mem_cons_of_mem _ mw_1_103)) (fun _ h9 => h9) rfl dX8_beLike_1 ?_
  refine lv_iconst (v := 0) hx hb dX8_beLike_4 (by decide) ?_
  refine lv_aload_n hx hb dX8_beLike_5 rfl (lv_at hl 0 rfl) ?_
  refine va_get (D := (dC, dI)) (ci := 8) (v := .ref (ad 46)) (C := RX8) (T := TX8) (N := 6) hx hb hts inG8 hown hK hP 5 (gX_5 cs ad mu) rfl 0 (by decide) (hts _ (List.mem_cons_of_mem _ mw_1_103)) (fun _ h9 => h9) rfl dX8_beLike_6 ?_
  refine lv_iconst (v := 0) hx hb dX8_beLike_9 (by decide) ?_
  refine lv_bipush (v := 7) hx hb dX8_beLike_10 (by decide) ?_
  refine va_copyi hx hb (hml.trans hl.1.symm) hown (hts _ (List.mem_cons_of_mem _ mw_3_225)) (hts _ (List.mem_cons_of_mem _ mw_3_4)) (hts _ (List.mem_cons_of_mem _ mw_3_3)) (hts _ (List.mem_cons_of_mem _ mw_1_15)) hK hP (wR_D mu hD) hS 40 46 0 0 (gX_40 cs ad mu) (gX_46 cs ad mu) rfl rfl rfl (by decide) (by decide) (by decide) (by have ua : ((0 : Int32).toNatClampNeg : Int) = 0 := rfl; have ub : ((0 : Int32).toNatClampNeg : Int) = 0 := rfl; have uc : ((7 : Int32).toNatClampNeg : Int) = 7 := rfl; omega) (by have ua : ((0 : Int32).toNatClampNeg : Int) = 0 := rfl; have ub : ((0 : Int32).toNatClampNeg : Int) = 0 := rfl; have uc : ((7 : Int32).toNatClampNeg : Int) = 7 := rfl; omega) (fun _ _ => rfl) (Nat.le_of_ble_eq_true rfl) (Nat.le_of_ble_eq_true rfl) dX8_beLike_12 (fun H locs hP _ hS => ?_)
  refine wr_gen (va_cpy (mu 40) (mu 46) (0 : Int32).toNatClampNeg (0 : Int32).toNatClampNeg (7 : Int32).toNatClampNeg) hP (rfl) (fun nu1 hn1 hP => ?_)
  have ok := okR_cp ok hn1 (cX_40_46  )
  refine lv_iconst (v := 0) hx hb dX8_beLike_15 (by decide) ?_
  refine lv_istore_n (lv' := [(2, .int 0), (0, .ref (ad 5)), (1, .ref (ad 18))]) hx hb dX8_beLike_16 rfl hl (by decide) rfl (fun ls hl => ?_)
  have loop17 : ∀ (n17 : Nat) (v2_17 : Int32) (nu17_ : Nat → Nat → Int32) (H : Heap) (locs : List Loc) (ls : Array Slot), (4 + 1 - v2_17.toInt).toNat < n17 → (0 ≤ v2_17.toInt ∧ v2_17.toInt ≤ 4) → okR loX hiX nu17_ → va_P (dC, dI) vwCl (wR 157 ad (EX cs ad) nu17_) H → va_S (va_A (wR 157 ad (EX cs ad) mu) s.heap.size) s.heap H locs → lv_has ls 3 [(2, .int v2_17), (0, .ref (ad 5)), (1, .ref (ad 18))] → W p l e (headSpec (wU yX8_beLike cX8_beLike 3 none) ({ frames := 1, cells := 0, slots := 0, locals := 60 })).room s m ([.ref (ad 5), .ref (ad 18)] : List Value).toArray below meth c H locs 0 0 (MQ below (va_Qv (fun (xi : Nat → Nat → Int32) => okR loX hiX xi ∧ (True) ∧ True) (fun xi t => va_P (dC, dI) vwCl (wR 157 ad (EX cs ad) xi) t.heap) (va_A (wR 157 ad (EX cs ad) mu) s.heap.size)) ([.ref (ad 5), .ref (ad 18)] : List Value).toArray s 0 0 (va_A (wR 157 ad (EX cs ad) mu) s.heap.size)) (F0 m 17 ls []) := by
    intro n17
    induction n17 with
    | zero => intro v2_17 nu17_ H locs ls hm; exact absurd hm (Nat.not_lt_zero _)
    | succ n17 ih17 =>
      intro v2_17 nu17_ H locs ls hm h_v2_17 ok hP hS hl
      refine lv_iload_n hx hb dX8_beLike_17 rfl (lv_at hl 0 rfl) ?_
      refine lv_iconst (v := 4) hx hb dX8_beLike_18 (by decide) ?_
      refine lv_icmp_ge (tgt := 43) hx hb dX8_beLike_19 (by decide) (fun c_2 => ?_) (fun c_2 => ?_)
      · have c_2 : 4 ≤ v2_17.toInt := il_le c_2
        refine lv_aload_n hx hb dX8_beLike_43 rfl (lv_at hl 1 rfl) ?_
        refine lv_aload_n hx hb dX8_beLike_44 rfl (lv_at hl 2 rfl) ?_
        refine va_get (D := (dC, dI)) (ci := 8) (v := .int (nu17_ 18 2)) (C := RX8) (T := TX8) (N := 6) hx hb hts inG8 hown hK hP 18 (gX_18 cs ad nu17_) rfl 2 (by decide) (hts _ (List.mem_cons_of_mem _ mw_1_113)) (fun _ h9 => h9) rfl dX8_beLike_45 ?_
        refine lv_topi (fun y3 ey3 => ?_)
        have by3 : y3.toInt = (nu17_ 18 2).toInt := congrArg Int32.toInt ey3
        refine va_put (D := (dC, dI)) (ci := 8) (v := .int y3) (ty := .int) (C := RX8) (T := TX8) (N := 6) hx hb hts inG8 tyX8 tyX8_ok nmX8 hown hK hP (wR_D nu17_ hD) hS 5 (gX_5 cs ad nu17_) rfl 2 (by decide) (hts _ (List.mem_cons_of_mem _ mw_1_113)) (fun _ h9 => h9) rfl (by decide +kernel) rfl rfl (Nat.le_of_ble_eq_true rfl) dX8_beLike_48 (fun H locs hP _ hS => ?_)
        simp only [List.set_cons_succ, List.set_cons_zero] at hP
        refine wr_gen (upd (nu17_ 5) 2 y3) hP ((hX_5_2 cs ad _ _)) (fun nu4 hn4 hP => ?_)
        have ok := tX_5_2 ok hn4
        have ez5 : y3 = nu4 18 2 := ey3.trans (congrFun (up_k hn4 (by decide)) 2).symm
        have ez6 : y3 = nu4 5 2 := up_v hn4
        refine lv_aload_n hx hb dX8_beLike_51 rfl (lv_at hl 1 rfl) ?_
        refine lv_aload_n hx hb dX8_beLike_52 rfl (lv_at hl 2 rfl) ?_
        refine va_get (D := (dC, dI)) (ci := 8) (v := .int (nu4 18 3)) (C := RX8) (T := TX8) (N := 6) hx hb hts inG8 hown hK hP 18 (gX_18 cs ad nu4) rfl 3 (by decide) (hts _ (List.mem_cons_of_mem _ mw_1_120)) (fun _ h9 => h9) rfl dX8_beLike_53 ?_
        refine lv_topi (fun y7 ey7 => ?_)
        have by7 : y7.toInt = (nu4 18 3).toInt := congrArg Int32.toInt ey7
        refine va_put (D := (dC, dI)) (ci := 8) (v := .int y7) (ty := .int) (C := RX8) (T := TX8) (N := 6) hx hb hts inG8 tyX8 tyX8_ok nmX8 hown hK hP (wR_D nu4 hD) hS 5 (gX_5 cs ad nu4) rfl 3 (by decide) (hts _ (List.mem_cons_of_mem _ mw_1_120)) (fun _ h9 => h9) rfl (by decide +kernel) rfl rfl (Nat.le_of_ble_eq_true rfl) dX8_beLike_56 (fun H locs hP _ hS => ?_)
        simp only [List.set_cons_succ, List.set_cons_zero] at hP
        refine wr_gen (upd (nu4 5) 3 y7) hP ((hX_5_3 cs ad _ _)) (fun nu8 hn8 hP => ?_)
        have ok := tX_5_3 ok hn8
        have ez9 : y3 = nu8 18 2 := ez5.trans (congrFun (up_k hn8 (by decide)) 2).symm
        have ez10 : y3 = nu8 5 2 := ez6.trans (up_f hn8 (by decide)).symm
        have ez11 : y7 = nu8 18 3 := ey7.trans (congrFun (up_k hn8 (by decide)) 3).symm
        have ez12 : y7 = nu8 5 3 := up_v hn8
        refine lv_aload_n hx hb dX8_beLike_59 rfl (lv_at hl 1 rfl) ?_
        refine lv_aload_n hx hb dX8_beLike_60 rfl (lv_at hl 2 rfl) ?_
        refine va_get (D := (dC, dI)) (ci := 8) (v := .int (nu8 18 4)) (C := RX8) (T := TX8) (N := 6) hx hb hts inG8 hown hK hP 18 (gX_18 cs ad nu8) rfl 4 (by decide) (hts _ (List.mem_cons_of_mem _ mw_1_125)) (fun _ h9 => h9) rfl dX8_beLike_61 ?_
        refine lv_topi (fun y13 ey13 => ?_)
        have by13 : y13.toInt = (nu8 18 4).toInt := congrArg Int32.toInt ey13
        have gy13 : 0 ≤ y13.toInt ∧ y13.toInt ≤ 4 := by rw [ey13]; exact rX_18_4 ok
        refine va_put (D := (dC, dI)) (ci := 8) (v := .int y13) (ty := .int) (C := RX8) (T := TX8) (N := 6) hx hb hts inG8 tyX8 tyX8_ok nmX8 hown hK hP (wR_D nu8 hD) hS 5 (gX_5 cs ad nu8) rfl 4 (by decide) (hts _ (List.mem_cons_of_mem _ mw_1_125)) (fun _ h9 => h9) rfl (by decide +kernel) rfl rfl (Nat.le_of_ble_eq_true rfl) dX8_beLike_64 (fun H locs hP _ hS => ?_)
        simp only [List.set_cons_succ, List.set_cons_zero] at hP
        refine wr_gen (upd (nu8 5) 4 y13) hP ((hX_5_4 cs ad _ _)) (fun nu14 hn14 hP => ?_)
        have ok := tX_5_4 ok hn14 (by exact ⟨by omega, by omega⟩)
        have ez15 : y3 = nu14 18 2 := ez9.trans (congrFun (up_k hn14 (by decide)) 2).symm
        have ez16 : y3 = nu14 5 2 := ez10.trans (up_f hn14 (by decide)).symm
        have ez17 : y7 = nu14 18 3 := ez11.trans (congrFun (up_k hn14 (by decide)) 3).symm
        have ez18 : y7 = nu14 5 3 := ez12.trans (up_f hn14 (by decide)).symm
        have ez19 : y13 = nu14 18 4 := ey13.trans (congrFun (up_k hn14 (by decide)) 4).symm
        have ez20 : y13 = nu14 5 4 := up_v hn14
        exact W.vret hx hb hr (fun t ht hW => ⟨⟨nu14, rfl, ⟨ok, trivial, trivial⟩, by first | (subst ht; exact hP) | (rw [ht]; exact hP) | (show va_P (dC, dI) vwCl (wR 157 ad (EX cs ad) nu14) t.heap; rw [ht]; exact hP)⟩, hS.F ht⟩) hS.2.2 dX8_beLike_67
      · have c_2 : v2_17.toInt < 4 := il_nle c_2
        refine lv_aload_n hx hb dX8_beLike_22 rfl (lv_at hl 1 rfl) ?_
        refine va_get (D := (dC, dI)) (ci := 8) (v := .ref (ad 47)) (C := RX8) (T := TX8) (N := 6) hx hb hts inG8 hown hK hP 5 (gX_5 cs ad nu17_) rfl 1 (by decide) (hts _ (List.mem_cons_of_mem _ mw_1_109)) (fun _ h9 => h9) rfl dX8_beLike_23 ?_
        refine lv_iload_n hx hb dX8_beLike_26 rfl (lv_at hl 0 rfl) ?_
        have hx21 : 0 ≤ v2_17.toInt ∧ v2_17.toInt < ((4 : Nat) : Int) := ⟨by omega, by omega⟩
        refine va_aldq hx hb hK hP 47 5 (gX_47 cs ad nu17_) rfl (show vp_in v2_17 4 from vi_of hx21.1 hx21.2) dX8_beLike_27 ?_
        have hk21 : 61 ≤ (61 + v2_17.toNatClampNeg) ∧ (61 + v2_17.toNatClampNeg) < 65 := ix_of hx21
        have hk21 : 61 ≤ (61 + v2_17.toNatClampNeg) ∧ (61 + v2_17.toNatClampNeg) < 77 := ⟨Nat.le_trans (by decide) hk21.1, Nat.lt_of_lt_of_le hk21.2 (by decide)⟩
        refine lq_v (.ref (ad (61 + v2_17.toNatClampNeg))) rfl ?_
        refine lv_aload_n hx hb dX8_beLike_28 rfl (lv_at hl 2 rfl) ?_
        refine va_get (D := (dC, dI)) (ci := 8) (v := .ref (ad 43)) (C := RX8) (T := TX8) (N := 6) hx hb hts inG8 hown hK hP 18 (gX_18 cs ad nu17_) rfl 1 (by decide) (hts _ (List.mem_cons_of_mem _ mw_1_109)) (fun _ h9 => h9) rfl dX8_beLike_29 ?_
        refine lv_iload_n hx hb dX8_beLike_32 rfl (lv_at hl 0 rfl) ?_
        have hx22 : 0 ≤ v2_17.toInt ∧ v2_17.toInt < ((4 : Nat) : Int) := ⟨by omega, by omega⟩
        refine va_aldq hx hb hK hP 43 5 (gX_43 cs ad nu17_) rfl (show vp_in v2_17 4 from vi_of hx22.1 hx22.2) dX8_beLike_33 ?_
        have hk22 : 65 ≤ (65 + v2_17.toNatClampNeg) ∧ (65 + v2_17.toNatClampNeg) < 69 := ix_of hx22
        have hk22 : 61 ≤ (65 + v2_17.toNatClampNeg) ∧ (65 + v2_17.toNatClampNeg) < 77 := ⟨Nat.le_trans (by decide) hk22.1, Nat.lt_of_lt_of_le hk22.2 (by decide)⟩
        refine lq_v (.ref (ad (65 + v2_17.toNatClampNeg))) rfl ?_
        have hFc := fr_all (wR_D nu17_ hD) hS hA
        refine va_callv (va_runV (As := [.ref (ad (65 + v2_17.toNatClampNeg))]) (rest := []) ⟨hx, hb, hml, hown, hts⟩ (sx_Letter_beLike l dC dI cs ad nu17_ ok H hP ((wR_D nu17_ hD).weaken (fun _ _ _ _ => trivial)) (61 + v2_17.toNatClampNeg) hk21.1 hk21.2 (65 + v2_17.toNatClampNeg) hk22.1 hk22.2) (cwV 1 hts (wU_V mw_3_229 mw_3_226 mw_3_227 mw_3_228 mw_1_4) rfl rfl rfl (by decide +kernel) ⟨Nat.le_of_ble_eq_true rfl, Nat.le_of_ble_eq_true rfl⟩) ⟨sz_c, va_recv hK hP (ci := 3) (q0 := (61 + v2_17.toNatClampNeg)) rfl (gX_letter cs ad nu17_ (61 + v2_17.toNatClampNeg) hk21.1 hk21.2), sz_m hK hz⟩ rfl rfl hl.1 rfl (lv_room (Nat.le_of_ble_eq_true rfl)) dX8_beLike_34 ⟨Nat.zero_le _, Nat.zero_le _⟩) hS (fun q _ h => hFc q h) hFc (fun xi23 t H23 locs ht hvm hw23 hB hz1 hk1 hS => ?_)
        have hP : va_P (dC, dI) vwCl (wR 157 ad (EX cs ad) xi23) H23 := by rw [← ht]; exact hB
        obtain ⟨ok, hw23, _⟩ := hw23
        refine lv_iinc (v := (v2_17 + 1)) (lv' := [(2, .int (v2_17 + 1)), (0, .ref (ad 5)), (1, .ref (ad 18))]) hx hb dX8_beLike_37 hl (k := 0) rfl rfl (by decide) rfl (fun ls hl => ?_)
        refine loc_gen (P := fun w9 => lv_has ls 3 [(2, .int w9), (0, .ref (ad 5)), (1, .ref (ad 18))]) (v2_17 + 1) hl (fun w24 hw24 hl => ?_)
        have hl : lv_has ls 3 [(2, .int w24), (0, .ref (ad 5)), (1, .ref (ad 18))] := hl
        have aw24 : w24.toInt = v2_17.toInt + 1 := by rw [← hw24]; exact tI_add (rfl : v2_17.toInt = _) (rfl : (1 : Int32).toInt = 1) (by omega) (by omega)
        refine lv_goto (tgt := 17) hx hb dX8_beLike_40 (by decide) ?_
        exact ih17 (w24) xi23 _ _ _ (by omega) (by exact ⟨by omega, by omega⟩)  ok hP   hS (lv_sub hl [0, 1, 2] rfl)
  exact loop17 ((4 + 1 - (0 : Int32).toInt).toNat + 1) (0) nu1 _ _ _ (Nat.lt_succ_self _) (by have h80 : (0 : Int32).toInt = 0 := rfl; exact ⟨by omega, by omega⟩)  ok hP   hS hl
set_option maxHeartbeats 4000000 in
set_option maxRecDepth 100000 in
/-- sx_Standing_beLike_5_19 -/
theorem sx_Standing_beLike_5_19 (l : Launch) (dC : Nat → ClassId) (dI : Nat → Nat → Nat) (cs : Nat → ClassId) (ad : Nat → Nat) (mu : Nat → Nat → Int32) (ok : okR loX hiX mu) (H : Heap) (hP : va_P (dC, dI) vwCl (wR 157 ad (EX cs ad) mu) H) (hD0 : va_D (fun _ => True) (wR 157 ad (EX cs ad) mu)) : Met l yX8_beLike (wU yX8_beLike cX8_beLike 3 none) ({ frames := 1, cells := 0, slots := 0, locals := 60 }) (va_Pc [.ref (ad 5), .ref (ad 19)] (sz_P (dC, dI) vwCl (tyW cs) H)) (va_Qv (fun (xi : Nat → Nat → Int32) => okR loX hiX xi ∧ (True) ∧ True) (fun xi t => va_P (dC, dI) vwCl (wR 157 ad (EX cs ad) xi) t.heap) (va_A (wR 157 ad (EX cs ad) mu) H.size)) 0 0 (va_A (wR 157 ad (EX cs ad) mu) H.size) := by
  refine Met.ofW (cc := cX8_beLike) (maxL := 3) (ret := none) (by decide) rfl ?_
  intro p e s m args below meth c s₁ B hml hv
  obtain ⟨rfl, hh, hK, hz⟩ := hv
  have hx := B.exec
  have hb := B.bytes
  have hr := B.returns
  have hts := atoms_spec (ws := (wU yX8_beLike cX8_beLike 3 none)) B.pre
  have hown : s.vm.findClass RX8 = some m.cls := findClass_of_methodNamed B.named
  have hlocks := B.notSynchronized
  subst hh
  have hD := hD0.self (sz := s.heap.size)
  have hA : ∀ q : Nat, s.heap.size ≤ q → (va_A (wR 157 ad (EX cs ad) mu) s.heap.size) q := fun q h => Or.inr h
  have hS : va_S (va_A (wR 157 ad (EX cs ad) mu) s.heap.size) s.heap s.heap [] := va_S.rf
  have hl := lv_entry ([.ref (ad 5), .ref (ad 19)]) (n := 3) (Nat.le_of_ble_eq_true rfl)
  rw [lg_entry_eq]
  generalize (lg_sl ([.ref (ad 5), .ref (ad 19)]) ++ List.replicate (3 - (lg_sl ([.ref (ad 5), .ref (ad 19)])).length) Slot.unset).toArray = ls at hl ⊢
  have hl : lv_has ls 3 [(0, .ref (ad 5)), (1, .ref (ad 19))] := hl
  refine lv_aload_n hx hb dX8_beLike_0 rfl (lv_at hl 1 rfl) ?_
  refine va_get (D := (dC, dI)) (ci := 8) (v := .ref (ad 41)) (C := RX8) (T := TX8) (N := 6) hx hb hts inG8 hown hK hP 19 (gX_19 cs ad mu) rfl 0 (by decide) (hts _ (List.mem_cons_of_mem _ mw_1_103)) (fun _ h9 => h9) rfl dX8_beLike_1 ?_
  refine lv_iconst (v := 0) hx hb dX8_beLike_4 (by decide) ?_
  refine lv_aload_n hx hb dX8_beLike_5 rfl (lv_at hl 0 rfl) ?_
  refine va_get (D := (dC, dI)) (ci := 8) (v := .ref (ad 46)) (C := RX8) (T := TX8) (N := 6) hx hb hts inG8 hown hK hP 5 (gX_5 cs ad mu) rfl 0 (by decide) (hts _ (List.mem_cons_of_mem _ mw_1_103)) (fun _ h9 => h9) rfl dX8_beLike_6 ?_
  refine lv_iconst (v := 0) hx hb dX8_beLike_9 (by decide) ?_
  refine lv_bipush (v := 7) hx hb dX8_beLike_10 (by decide) ?_
  refine va_copyi hx hb (hml.trans hl.1.symm) hown (hts _ (List.mem_cons_of_mem _ mw_3_225)) (hts _ (List.mem_cons_of_mem _ mw_3_4)) (hts _ (List.mem_cons_of_mem _ mw_3_3)) (hts _ (List.mem_cons_of_mem _ mw_1_15)) hK hP (wR_D mu hD) hS 41 46 0 0 (gX_41 cs ad mu) (gX_46 cs ad mu) rfl rfl rfl (by decide) (by decide) (by decide) (by have ua : ((0 : Int32).toNatClampNeg : Int) = 0 := rfl; have ub : ((0 : Int32).toNatClampNeg : Int) = 0 := rfl; have uc : ((7 : Int32).toNatClampNeg : Int) = 7 := rfl; omega) (by have ua : ((0 : Int32).toNatClampNeg : Int) = 0 := rfl; have ub : ((0 : Int32).toNatClampNeg : Int) = 0 := rfl; have uc : ((7 : Int32).toNatClampNeg : Int) = 7 := rfl; omega) (fun _ _ => rfl) (Nat.le_of_ble_eq_true rfl) (Nat.le_of_ble_eq_true rfl) dX8_beLike_12 (fun H locs hP _ hS => ?_)
  refine wr_gen (va_cpy (mu 41) (mu 46) (0 : Int32).toNatClampNeg (0 : Int32).toNatClampNeg (7 : Int32).toNatClampNeg) hP (rfl) (fun nu1 hn1 hP => ?_)
  have ok := okR_cp ok hn1 (cX_41_46  )
  refine lv_iconst (v := 0) hx hb dX8_beLike_15 (by decide) ?_
  refine lv_istore_n (lv' := [(2, .int 0), (0, .ref (ad 5)), (1, .ref (ad 19))]) hx hb dX8_beLike_16 rfl hl (by decide) rfl (fun ls hl => ?_)
  have loop17 : ∀ (n17 : Nat) (v2_17 : Int32) (nu17_ : Nat → Nat → Int32) (H : Heap) (locs : List Loc) (ls : Array Slot), (4 + 1 - v2_17.toInt).toNat < n17 → (0 ≤ v2_17.toInt ∧ v2_17.toInt ≤ 4) → okR loX hiX nu17_ → va_P (dC, dI) vwCl (wR 157 ad (EX cs ad) nu17_) H → va_S (va_A (wR 157 ad (EX cs ad) mu) s.heap.size) s.heap H locs → lv_has ls 3 [(2, .int v2_17), (0, .ref (ad 5)), (1, .ref (ad 19))] → W p l e (headSpec (wU yX8_beLike cX8_beLike 3 none) ({ frames := 1, cells := 0, slots := 0, locals := 60 })).room s m ([.ref (ad 5), .ref (ad 19)] : List Value).toArray below meth c H locs 0 0 (MQ below (va_Qv (fun (xi : Nat → Nat → Int32) => okR loX hiX xi ∧ (True) ∧ True) (fun xi t => va_P (dC, dI) vwCl (wR 157 ad (EX cs ad) xi) t.heap) (va_A (wR 157 ad (EX cs ad) mu) s.heap.size)) ([.ref (ad 5), .ref (ad 19)] : List Value).toArray s 0 0 (va_A (wR 157 ad (EX cs ad) mu) s.heap.size)) (F0 m 17 ls []) := by
    intro n17
    induction n17 with
    | zero => intro v2_17 nu17_ H locs ls hm; exact absurd hm (Nat.not_lt_zero _)
    | succ n17 ih17 =>
      intro v2_17 nu17_ H locs ls hm h_v2_17 ok hP hS hl
      refine lv_iload_n hx hb dX8_beLike_17 rfl (lv_at hl 0 rfl) ?_
      refine lv_iconst (v := 4) hx hb dX8_beLike_18 (by decide) ?_
      refine lv_icmp_ge (tgt := 43) hx hb dX8_beLike_19 (by decide) (fun c_2 => ?_) (fun c_2 => ?_)
      · have c_2 : 4 ≤ v2_17.toInt := il_le c_2
        refine lv_aload_n hx hb dX8_beLike_43 rfl (lv_at hl 1 rfl) ?_
        refine lv_aload_n hx hb dX8_beLike_44 rfl (lv_at hl 2 rfl) ?_
        refine va_get (D := (dC, dI)) (ci := 8) (v := .int (nu17_ 19 2)) (C := RX8) (T := TX8) (N := 6) hx hb hts inG8 hown hK hP 19 (gX_19 cs ad nu17_) rfl 2 (by decide) (hts _ (List.mem_cons_of_mem _ mw_1_113)) (fun _ h9 => h9) rfl dX8_beLike_45 ?_
        refine lv_topi (fun y3 ey3 => ?_)
        have by3 : y3.toInt = (nu17_ 19 2).toInt := congrArg Int32.toInt ey3
        refine va_put (D := (dC, dI)) (ci := 8) (v := .int y3) (ty := .int) (C := RX8) (T := TX8) (N := 6) hx hb hts inG8 tyX8 tyX8_ok nmX8 hown hK hP (wR_D nu17_ hD) hS 5 (gX_5 cs ad nu17_) rfl 2 (by decide) (hts _ (List.mem_cons_of_mem _ mw_1_113)) (fun _ h9 => h9) rfl (by decide +kernel) rfl rfl (Nat.le_of_ble_eq_true rfl) dX8_beLike_48 (fun H locs hP _ hS => ?_)
        simp only [List.set_cons_succ, List.set_cons_zero] at hP
        refine wr_gen (upd (nu17_ 5) 2 y3) hP ((hX_5_2 cs ad _ _)) (fun nu4 hn4 hP => ?_)
        have ok := tX_5_2 ok hn4
        have ez5 : y3 = nu4 19 2 := ey3.trans (congrFun (up_k hn4 (by decide)) 2).symm
        have ez6 : y3 = nu4 5 2 := up_v hn4
        refine lv_aload_n hx hb dX8_beLike_51 rfl (lv_at hl 1 rfl) ?_
        refine lv_aload_n hx hb dX8_beLike_52 rfl (lv_at hl 2 rfl) ?_
        refine va_get (D := (dC, dI)) (ci := 8) (v := .int (nu4 19 3)) (C := RX8) (T := TX8) (N := 6) hx hb hts inG8 hown hK hP 19 (gX_19 cs ad nu4) rfl 3 (by decide) (hts _ (List.mem_cons_of_mem _ mw_1_120)) (fun _ h9 => h9) rfl dX8_beLike_53 ?_
        refine lv_topi (fun y7 ey7 => ?_)
        have by7 : y7.toInt = (nu4 19 3).toInt := congrArg Int32.toInt ey7
        refine va_put (D := (dC, dI)) (ci := 8) (v := .int y7) (ty := .int) (C := RX8) (T := TX8) (N := 6) hx hb hts inG8 tyX8 tyX8_ok nmX8 hown hK hP (wR_D nu4 hD) hS 5 (gX_5 cs ad nu4) rfl 3 (by decide) (hts _ (List.mem_cons_of_mem _ mw_1_120)) (fun _ h9 => h9) rfl (by decide +kernel) rfl rfl (Nat.le_of_ble_eq_true rfl) dX8_beLike_56 (fun H locs hP _ hS => ?_)
        simp only [List.set_cons_succ, List.set_cons_zero] at hP
        refine wr_gen (upd (nu4 5) 3 y7) hP ((hX_5_3 cs ad _ _)) (fun nu8 hn8 hP => ?_)
        have ok := tX_5_3 ok hn8
        have ez9 : y3 = nu8 19 2 := ez5.trans (congrFun (up_k hn8 (by decide)) 2).symm
        have ez10 : y3 = nu8 5 2 := ez6.trans (up_f hn8 (by decide)).symm
        have ez11 : y7 = nu8 19 3 := ey7.trans (congrFun (up_k hn8 (by decide)) 3).symm
        have ez12 : y7 = nu8 5 3 := up_v hn8
        refine lv_aload_n hx hb dX8_beLike_59 rfl (lv_at hl 1 rfl) ?_
        refine lv_aload_n hx hb dX8_beLike_60 rfl (lv_at hl 2 rfl) ?_
        refine va_get (D := (dC, dI)) (ci := 8) (v := .int (nu8 19 4)) (C := RX8) (T := TX8) (N := 6) hx hb hts inG8 hown hK hP 19 (gX_19 cs ad nu8) rfl 4 (by decide) (hts _ (List.mem_cons_of_mem _ mw_1_125)) (fun _ h9 => h9) rfl dX8_beLike_61 ?_
        refine lv_topi (fun y13 ey13 => ?_)
        have by13 : y13.toInt = (nu8 19 4).toInt := congrArg Int32.toInt ey13
        have gy13 : 0 ≤ y13.toInt ∧ y13.toInt ≤ 4 := by rw [ey13]; exact rX_19_4 ok
        refine va_put (D := (dC, dI)) (ci := 8) (v := .int y13) (ty := .int) (C := RX8) (T := TX8) (N := 6) hx hb hts inG8 tyX8 tyX8_ok nmX8 hown hK hP (wR_D nu8 hD) hS 5 (gX_5 cs ad nu8) rfl 4 (by decide) (hts _ (List.mem_cons_of_mem _ mw_1_125)) (fun _ h9 => h9) rfl (by decide +kernel) rfl rfl (Nat.le_of_ble_eq_true rfl) dX8_beLike_64 (fun H locs hP _ hS => ?_)
        simp only [List.set_cons_succ, List.set_cons_zero] at hP
        refine wr_gen (upd (nu8 5) 4 y13) hP ((hX_5_4 cs ad _ _)) (fun nu14 hn14 hP => ?_)
        have ok := tX_5_4 ok hn14 (by exact ⟨by omega, by omega⟩)
        have ez15 : y3 = nu14 19 2 := ez9.trans (congrFun (up_k hn14 (by decide)) 2).symm
        have ez16 : y3 = nu14 5 2 := ez10.trans (up_f hn14 (by decide)).symm
        have ez17 : y7 = nu14 19 3 := ez11.trans (congrFun (up_k hn14 (by decide)) 3).symm
        have ez18 : y7 = nu14 5 3 := ez12.trans (up_f hn14 (by decide)).symm
        have ez19 : y13 = nu14 19 4 := ey13.trans (congrFun (up_k hn14 (by decide)) 4).symm
        have ez20 : y13 = nu14 5 4 := up_v hn14
        exact W.vret hx hb hr (fun t ht hW => ⟨⟨nu14, rfl, ⟨ok, trivial, trivial⟩, by first | (subst ht; exact hP) | (rw [ht]; exact hP) | (show va_P (dC, dI) vwCl (wR 157 ad (EX cs ad) nu14) t.heap; rw [ht]; exact hP)⟩, hS.F ht⟩) hS.2.2 dX8_beLike_67
      · have c_2 : v2_17.toInt < 4 := il_nle c_2
        refine lv_aload_n hx hb dX8_beLike_22 rfl (lv_at hl 1 rfl) ?_
        refine va_get (D := (dC, dI)) (ci := 8) (v := .ref (ad 47)) (C := RX8) (T := TX8) (N := 6) hx hb hts inG8 hown hK hP 5 (gX_5 cs ad nu17_) rfl 1 (by decide) (hts _ (List.mem_cons_of_mem _ mw_1_109)) (fun _ h9 => h9) rfl dX8_beLike_23 ?_
        refine lv_iload_n hx hb dX8_beLike_26 rfl (lv_at hl 0 rfl) ?_
        have hx21 : 0 ≤ v2_17.toInt ∧ v2_17.toInt < ((4 : Nat) : Int) := ⟨by omega, by omega⟩
        refine va_aldq hx hb hK hP 47 5 (gX_47 cs ad nu17_) rfl (show vp_in v2_17 4 from vi_of hx21.1 hx21.2) dX8_beLike_27 ?_
        have hk21 : 61 ≤ (61 + v2_17.toNatClampNeg) ∧ (61 + v2_17.toNatClampNeg) < 65 := ix_of hx21
        have hk21 : 61 ≤ (61 + v2_17.toNatClampNeg) ∧ (61 + v2_17.toNatClampNeg) < 77 := ⟨Nat.le_trans (by decide) hk21.1, Nat.lt_of_lt_of_le hk21.2 (by decide)⟩
        refine lq_v (.ref (ad (61 + v2_17.toNatClampNeg))) rfl ?_
        refine lv_aload_n hx hb dX8_beLike_28 rfl (lv_at hl 2 rfl) ?_
        refine va_get (D := (dC, dI)) (ci := 8) (v := .ref (ad 44)) (C := RX8) (T := TX8) (N := 6) hx hb hts inG8 hown hK hP 19 (gX_19 cs ad nu17_) rfl 1 (by decide) (hts _ (List.mem_cons_of_mem _ mw_1_109)) (fun _ h9 => h9) rfl dX8_beLike_29 ?_
        refine lv_iload_n hx hb dX8_beLike_32 rfl (lv_at hl 0 rfl) ?_
        have hx22 : 0 ≤ v2_17.toInt ∧ v2_17.toInt < ((4 : Nat) : Int) := ⟨by omega, by omega⟩
        refine va_aldq hx hb hK hP 44 5 (gX_44 cs ad nu17_) rfl (show vp_in v2_17 4 from vi_of hx22.1 hx22.2) dX8_beLike_33 ?_
        have hk22 : 69 ≤ (69 + v2_17.toNatClampNeg) ∧ (69 + v2_17.toNatClampNeg) < 73 := ix_of hx22
        have hk22 : 61 ≤ (69 + v2_17.toNatClampNeg) ∧ (69 + v2_17.toNatClampNeg) < 77 := ⟨Nat.le_trans (by decide) hk22.1, Nat.lt_of_lt_of_le hk22.2 (by decide)⟩
        refine lq_v (.ref (ad (69 + v2_17.toNatClampNeg))) rfl ?_
        have hFc := fr_all (wR_D nu17_ hD) hS hA
        refine va_callv (va_runV (As := [.ref (ad (69 + v2_17.toNatClampNeg))]) (rest := []) ⟨hx, hb, hml, hown, hts⟩ (sx_Letter_beLike l dC dI cs ad nu17_ ok H hP ((wR_D nu17_ hD).weaken (fun _ _ _ _ => trivial)) (61 + v2_17.toNatClampNeg) hk21.1 hk21.2 (69 + v2_17.toNatClampNeg) hk22.1 hk22.2) (cwV 1 hts (wU_V mw_3_229 mw_3_226 mw_3_227 mw_3_228 mw_1_4) rfl rfl rfl (by decide +kernel) ⟨Nat.le_of_ble_eq_true rfl, Nat.le_of_ble_eq_true rfl⟩) ⟨sz_c, va_recv hK hP (ci := 3) (q0 := (61 + v2_17.toNatClampNeg)) rfl (gX_letter cs ad nu17_ (61 + v2_17.toNatClampNeg) hk21.1 hk21.2), sz_m hK hz⟩ rfl rfl hl.1 rfl (lv_room (Nat.le_of_ble_eq_true rfl)) dX8_beLike_34 ⟨Nat.zero_le _, Nat.zero_le _⟩) hS (fun q _ h => hFc q h) hFc (fun xi23 t H23 locs ht hvm hw23 hB hz1 hk1 hS => ?_)
        have hP : va_P (dC, dI) vwCl (wR 157 ad (EX cs ad) xi23) H23 := by rw [← ht]; exact hB
        obtain ⟨ok, hw23, _⟩ := hw23
        refine lv_iinc (v := (v2_17 + 1)) (lv' := [(2, .int (v2_17 + 1)), (0, .ref (ad 5)), (1, .ref (ad 19))]) hx hb dX8_beLike_37 hl (k := 0) rfl rfl (by decide) rfl (fun ls hl => ?_)
        refine loc_gen (P := fun w9 => lv_has ls 3 [(2, .int w9), (0, .ref (ad 5)), (1, .ref (ad 19))]) (v2_17 + 1) hl (fun w24 hw24 hl => ?_)
        have hl : lv_has ls 3 [(2, .int w24), (0, .ref (ad 5)), (1, .ref (ad 19))] := hl
        have aw24 : w24.toInt = v2_17.toInt + 1 := by rw [← hw24]; exact tI_add (rfl : v2_17.toInt = _) (rfl : (1 : Int32).toInt = 1) (by omega) (by omega)
        refine lv_goto (tgt := 17) hx hb dX8_beLike_40 (by decide) ?_
        exact ih17 (w24) xi23 _ _ _ (by omega) (by exact ⟨by omega, by omega⟩)  ok hP   hS (lv_sub hl [0, 1, 2] rfl)
  exact loop17 ((4 + 1 - (0 : Int32).toInt).toNat + 1) (0) nu1 _ _ _ (Nat.lt_succ_self _) (by have h80 : (0 : Int32).toInt = 0 := rfl; exact ⟨by omega, by omega⟩)  ok hP   hS hl
set_option maxHeartbeats 4000000 in
set_option maxRecDepth 100000 in
/-- sx_Standing_beLike_5_20 -/
theorem sx_Standing_beLike_5_20 (l : Launch) (dC : Nat → ClassId) (dI : Nat → Nat → Nat) (cs : Nat → ClassId) (ad : Nat → Nat) (mu : Nat → Nat → Int32) (ok : okR loX hiX mu) (H : Heap) (hP : va_P (dC, dI) vwCl (wR 157 ad (EX cs ad) mu) H) (hD0 : va_D (fun _ => True) (wR 157 ad (EX cs ad) mu)) : Met l yX8_beLike (wU yX8_beLike cX8_beLike 3 none) ({ frames := 1, cells := 0, slots := 0, locals := 60 }) (va_Pc [.ref (ad 5), .ref (ad 20)] (sz_P (dC, dI) vwCl (tyW cs) H)) (va_Qv (fun (xi : Nat → Nat → Int32) => okR loX hiX xi ∧ (True) ∧ True) (fun xi t => va_P (dC, dI) vwCl (wR 157 ad (EX cs ad) xi) t.heap) (va_A (wR 157 ad (EX cs ad) mu) H.size)) 0 0 (va_A (wR 157 ad (EX cs ad) mu) H.size) := by
  refine Met.ofW (cc := cX8_beLike) (maxL := 3) (ret := none) (by decide) rfl ?_
  intro p e s m args below meth c s₁ B hml hv
  obtain ⟨rfl, hh, hK, hz⟩ := hv
  have hx := B.exec
  have hb := B.bytes
  have hr := B.returns
  have hts := atoms_spec (ws := (wU yX8_beLike cX8_beLike 3 none)) B.pre
  have hown : s.vm.findClass RX8 = some m.cls := findClass_of_methodNamed B.named
  have hlocks := B.notSynchronized
  subst hh
  have hD := hD0.self (sz := s.heap.size)
  have hA : ∀ q : Nat, s.heap.size ≤ q → (va_A (wR 157 ad (EX cs ad) mu) s.heap.size) q := fun q h => Or.inr h
  have hS : va_S (va_A (wR 157 ad (EX cs ad) mu) s.heap.size) s.heap s.heap [] := va_S.rf
  have hl := lv_entry ([.ref (ad 5), .ref (ad 20)]) (n := 3) (Nat.le_of_ble_eq_true rfl)
  rw [lg_entry_eq]
  generalize (lg_sl ([.ref (ad 5), .ref (ad 20)]) ++ List.replicate (3 - (lg_sl ([.ref (ad 5), .ref (ad 20)])).length) Slot.unset).toArray = ls at hl ⊢
  have hl : lv_has ls 3 [(0, .ref (ad 5)), (1, .ref (ad 20))] := hl
  refine lv_aload_n hx hb dX8_beLike_0 rfl (lv_at hl 1 rfl) ?_
  refine va_get (D := (dC, dI)) (ci := 8) (v := .ref (ad 42)) (C := RX8) (T := TX8) (N := 6) hx hb hts inG8 hown hK hP 20 (gX_20 cs ad mu) rfl 0 (by decide) (hts _ (List.mem_cons_of_mem _ mw_1_103)) (fun _ h9 => h9) rfl dX8_beLike_1 ?_
  refine lv_iconst (v := 0) hx hb dX8_beLike_4 (by decide) ?_
  refine lv_aload_n hx hb dX8_beLike_5 rfl (lv_at hl 0 rfl) ?_
  refine va_get (D := (dC, dI)) (ci := 8) (v := .ref (ad 46)) (C := RX8) (T := TX8) (N := 6) hx hb hts inG8 hown hK hP 5 (gX_5 cs ad mu) rfl 0 (by decide) (hts _ (List.mem_cons_of_mem _ mw_1_103)) (fun _ h9 => h9) rfl dX8_beLike_6 ?_
  refine lv_iconst (v := 0) hx hb dX8_beLike_9 (by decide) ?_
  refine lv_bipush (v := 7) hx hb dX8_beLike_10 (by decide) ?_
  refine va_copyi hx hb (hml.trans hl.1.symm) hown (hts _ (List.mem_cons_of_mem _ mw_3_225)) (hts _ (List.mem_cons_of_mem _ mw_3_4)) (hts _ (List.mem_cons_of_mem _ mw_3_3)) (hts _ (List.mem_cons_of_mem _ mw_1_15)) hK hP (wR_D mu hD) hS 42 46 0 0 (gX_42 cs ad mu) (gX_46 cs ad mu) rfl rfl rfl (by decide) (by decide) (by decide) (by have ua : ((0 : Int32).toNatClampNeg : Int) = 0 := rfl; have ub : ((0 : Int32).toNatClampNeg : Int) = 0 := rfl; have uc : ((7 : Int32).toNatClampNeg : Int) = 7 := rfl; omega) (by have ua : ((0 : Int32).toNatClampNeg : Int) = 0 := rfl; have ub : ((0 : Int32).toNatClampNeg : Int) = 0 := rfl; have uc : ((7 : Int32).toNatClampNeg : Int) = 7 := rfl; omega) (fun _ _ => rfl) (Nat.le_of_ble_eq_true rfl) (Nat.le_of_ble_eq_true rfl) dX8_beLike_12 (fun H locs hP _ hS => ?_)
  refine wr_gen (va_cpy (mu 42) (mu 46) (0 : Int32).toNatClampNeg (0 : Int32).toNatClampNeg (7 : Int32).toNatClampNeg) hP (rfl) (fun nu1 hn1 hP => ?_)
  have ok := okR_cp ok hn1 (cX_42_46  )
  refine lv_iconst (v := 0) hx hb dX8_beLike_15 (by decide) ?_
  refine lv_istore_n (lv' := [(2, .int 0), (0, .ref (ad 5)), (1, .ref (ad 20))]) hx hb dX8_beLike_16 rfl hl (by decide) rfl (fun ls hl => ?_)
  have loop17 : ∀ (n17 : Nat) (v2_17 : Int32) (nu17_ : Nat → Nat → Int32) (H : Heap) (locs : List Loc) (ls : Array Slot), (4 + 1 - v2_17.toInt).toNat < n17 → (0 ≤ v2_17.toInt ∧ v2_17.toInt ≤ 4) → okR loX hiX nu17_ → va_P (dC, dI) vwCl (wR 157 ad (EX cs ad) nu17_) H → va_S (va_A (wR 157 ad (EX cs ad) mu) s.heap.size) s.heap H locs → lv_has ls 3 [(2, .int v2_17), (0, .ref (ad 5)), (1, .ref (ad 20))] → W p l e (headSpec (wU yX8_beLike cX8_beLike 3 none) ({ frames := 1, cells := 0, slots := 0, locals := 60 })).room s m ([.ref (ad 5), .ref (ad 20)] : List Value).toArray below meth c H locs 0 0 (MQ below (va_Qv (fun (xi : Nat → Nat → Int32) => okR loX hiX xi ∧ (True) ∧ True) (fun xi t => va_P (dC, dI) vwCl (wR 157 ad (EX cs ad) xi) t.heap) (va_A (wR 157 ad (EX cs ad) mu) s.heap.size)) ([.ref (ad 5), .ref (ad 20)] : List Value).toArray s 0 0 (va_A (wR 157 ad (EX cs ad) mu) s.heap.size)) (F0 m 17 ls []) := by
    intro n17
    induction n17 with
    | zero => intro v2_17 nu17_ H locs ls hm; exact absurd hm (Nat.not_lt_zero _)
    | succ n17 ih17 =>
      intro v2_17 nu17_ H locs ls hm h_v2_17 ok hP hS hl
      refine lv_iload_n hx hb dX8_beLike_17 rfl (lv_at hl 0 rfl) ?_
      refine lv_iconst (v := 4) hx hb dX8_beLike_18 (by decide) ?_
      refine lv_icmp_ge (tgt := 43) hx hb dX8_beLike_19 (by decide) (fun c_2 => ?_) (fun c_2 => ?_)
      · have c_2 : 4 ≤ v2_17.toInt := il_le c_2
        refine lv_aload_n hx hb dX8_beLike_43 rfl (lv_at hl 1 rfl) ?_
        refine lv_aload_n hx hb dX8_beLike_44 rfl (lv_at hl 2 rfl) ?_
        refine va_get (D := (dC, dI)) (ci := 8) (v := .int (nu17_ 20 2)) (C := RX8) (T := TX8) (N := 6) hx hb hts inG8 hown hK hP 20 (gX_20 cs ad nu17_) rfl 2 (by decide) (hts _ (List.mem_cons_of_mem _ mw_1_113)) (fun _ h9 => h9) rfl dX8_beLike_45 ?_
        refine lv_topi (fun y3 ey3 => ?_)
        have by3 : y3.toInt = (nu17_ 20 2).toInt := congrArg Int32.toInt ey3
        refine va_put (D := (dC, dI)) (ci := 8) (v := .int y3) (ty := .int) (C := RX8) (T := TX8) (N := 6) hx hb hts inG8 tyX8 tyX8_ok nmX8 hown hK hP (wR_D nu17_ hD) hS 5 (gX_5 cs ad nu17_) rfl 2 (by decide) (hts _ (List.mem_cons_of_mem _ mw_1_113)) (fun _ h9 => h9) rfl (by decide +kernel) rfl rfl (Nat.le_of_ble_eq_true rfl) dX8_beLike_48 (fun H locs hP _ hS => ?_)
        simp only [List.set_cons_succ, List.set_cons_zero] at hP
        refine wr_gen (upd (nu17_ 5) 2 y3) hP ((hX_5_2 cs ad _ _)) (fun nu4 hn4 hP => ?_)
        have ok := tX_5_2 ok hn4
        have ez5 : y3 = nu4 20 2 := ey3.trans (congrFun (up_k hn4 (by decide)) 2).symm
        have ez6 : y3 = nu4 5 2 := up_v hn4
        refine lv_aload_n hx hb dX8_beLike_51 rfl (lv_at hl 1 rfl) ?_
        refine lv_aload_n hx hb dX8_beLike_52 rfl (lv_at hl 2 rfl) ?_
        refine va_get (D := (dC, dI)) (ci := 8) (v := .int (nu4 20 3)) (C := RX8) (T := TX8) (N := 6) hx hb hts inG8 hown hK hP 20 (gX_20 cs ad nu4) rfl 3 (by decide) (hts _ (List.mem_cons_of_mem _ mw_1_120)) (fun _ h9 => h9) rfl dX8_beLike_53 ?_
        refine lv_topi (fun y7 ey7 => ?_)
        have by7 : y7.toInt = (nu4 20 3).toInt := congrArg Int32.toInt ey7
        refine va_put (D := (dC, dI)) (ci := 8) (v := .int y7) (ty := .int) (C := RX8) (T := TX8) (N := 6) hx hb hts inG8 tyX8 tyX8_ok nmX8 hown hK hP (wR_D nu4 hD) hS 5 (gX_5 cs ad nu4) rfl 3 (by decide) (hts _ (List.mem_cons_of_mem _ mw_1_120)) (fun _ h9 => h9) rfl (by decide +kernel) rfl rfl (Nat.le_of_ble_eq_true rfl) dX8_beLike_56 (fun H locs hP _ hS => ?_)
        simp only [List.set_cons_succ, List.set_cons_zero] at hP
        refine wr_gen (upd (nu4 5) 3 y7) hP ((hX_5_3 cs ad _ _)) (fun nu8 hn8 hP => ?_)
        have ok := tX_5_3 ok hn8
        have ez9 : y3 = nu8 20 2 := ez5.trans (congrFun (up_k hn8 (by decide)) 2).symm
        have ez10 : y3 = nu8 5 2 := ez6.trans (up_f hn8 (by decide)).symm
        have ez11 : y7 = nu8 20 3 := ey7.trans (congrFun (up_k hn8 (by decide)) 3).symm
        have ez12 : y7 = nu8 5 3 := up_v hn8
        refine lv_aload_n hx hb dX8_beLike_59 rfl (lv_at hl 1 rfl) ?_
        refine lv_aload_n hx hb dX8_beLike_60 rfl (lv_at hl 2 rfl) ?_
        refine va_get (D := (dC, dI)) (ci := 8) (v := .int (nu8 20 4)) (C := RX8) (T := TX8) (N := 6) hx hb hts inG8 hown hK hP 20 (gX_20 cs ad nu8) rfl 4 (by decide) (hts _ (List.mem_cons_of_mem _ mw_1_125)) (fun _ h9 => h9) rfl dX8_beLike_61 ?_
        refine lv_topi (fun y13 ey13 => ?_)
        have by13 : y13.toInt = (nu8 20 4).toInt := congrArg Int32.toInt ey13
        have gy13 : 0 ≤ y13.toInt ∧ y13.toInt ≤ 4 := by rw [ey13]; exact rX_20_4 ok
        refine va_put (D := (dC, dI)) (ci := 8) (v := .int y13) (ty := .int) (C := RX8) (T := TX8) (N := 6) hx hb hts inG8 tyX8 tyX8_ok nmX8 hown hK hP (wR_D nu8 hD) hS 5 (gX_5 cs ad nu8) rfl 4 (by decide) (hts _ (List.mem_cons_of_mem _ mw_1_125)) (fun _ h9 => h9) rfl (by decide +kernel) rfl rfl (Nat.le_of_ble_eq_true rfl) dX8_beLike_64 (fun H locs hP _ hS => ?_)
        simp only [List.set_cons_succ, List.set_cons_zero] at hP
        refine wr_gen (upd (nu8 5) 4 y13) hP ((hX_5_4 cs ad _ _)) (fun nu14 hn14 hP => ?_)
        have ok := tX_5_4 ok hn14 (by exact ⟨by omega, by omega⟩)
        have ez15 : y3 = nu14 20 2 := ez9.trans (congrFun (up_k hn14 (by decide)) 2).symm
        have ez16 : y3 = nu14 5 2 := ez10.trans (up_f hn14 (by decide)).symm
        have ez17 : y7 = nu14 20 3 := ez11.trans (congrFun (up_k hn14 (by decide)) 3).symm
        have ez18 : y7 = nu14 5 3 := ez12.trans (up_f hn14 (by decide)).symm
        have ez19 : y13 = nu14 20 4 := ey13.trans (congrFun (up_k hn14 (by decide)) 4).symm
        have ez20 : y13 = nu14 5 4 := up_v hn14
        exact W.vret hx hb hr (fun t ht hW => ⟨⟨nu14, rfl, ⟨ok, trivial, trivial⟩, by first | (subst ht; exact hP) | (rw [ht]; exact hP) | (show va_P (dC, dI) vwCl (wR 157 ad (EX cs ad) nu14) t.heap; rw [ht]; exact hP)⟩, hS.F ht⟩) hS.2.2 dX8_beLike_67
      · have c_2 : v2_17.toInt < 4 := il_nle c_2
        refine lv_aload_n hx hb dX8_beLike_22 rfl (lv_at hl 1 rfl) ?_
        refine va_get (D := (dC, dI)) (ci := 8) (v := .ref (ad 47)) (C := RX8) (T := TX8) (N := 6) hx hb hts inG8 hown hK hP 5 (gX_5 cs ad nu17_) rfl 1 (by decide) (hts _ (List.mem_cons_of_mem _ mw_1_109)) (fun _ h9 => h9) rfl dX8_beLike_23 ?_
        refine lv_iload_n hx hb dX8_beLike_26 rfl (lv_at hl 0 rfl) ?_
        have hx21 : 0 ≤ v2_17.toInt ∧ v2_17.toInt < ((4 : Nat) : Int) := ⟨by omega, by omega⟩
        refine va_aldq hx hb hK hP 47 5 (gX_47 cs ad nu17_) rfl (show vp_in v2_17 4 from vi_of hx21.1 hx21.2) dX8_beLike_27 ?_
        have hk21 : 61 ≤ (61 + v2_17.toNatClampNeg) ∧ (61 + v2_17.toNatClampNeg) < 65 := ix_of hx21
        have hk21 : 61 ≤ (61 + v2_17.toNatClampNeg) ∧ (61 + v2_17.toNatClampNeg) < 77 := ⟨Nat.le_trans (by decide) hk21.1, Nat.lt_of_lt_of_le hk21.2 (by decide)⟩
        refine lq_v (.ref (ad (61 + v2_17.toNatClampNeg))) rfl ?_
        refine lv_aload_n hx hb dX8_beLike_28 rfl (lv_at hl 2 rfl) ?_
        refine va_get (D := (dC, dI)) (ci := 8) (v := .ref (ad 45)) (C := RX8) (T := TX8) (N := 6) hx hb hts inG8 hown hK hP 20 (gX_20 cs ad nu17_) rfl 1 (by decide) (hts _ (List.mem_cons_of_mem _ mw_1_109)) (fun _ h9 => h9) rfl dX8_beLike_29 ?_
        refine lv_iload_n hx hb dX8_beLike_32 rfl (lv_at hl 0 rfl) ?_
        have hx22 : 0 ≤ v2_17.toInt ∧ v2_17.toInt < ((4 : Nat) : Int) := ⟨by omega, by omega⟩
        refine va_aldq hx hb hK hP 45 5 (gX_45 cs ad nu17_) rfl (show vp_in v2_17 4 from vi_of hx22.1 hx22.2) dX8_beLike_33 ?_
        have hk22 : 73 ≤ (73 + v2_17.toNatClampNeg) ∧ (73 + v2_17.toNatClampNeg) < 77 := ix_of hx22
        have hk22 : 61 ≤ (73 + v2_17.toNatClampNeg) ∧ (73 + v2_17.toNatClampNeg) < 77 := ⟨Nat.le_trans (by decide) hk22.1, Nat.lt_of_lt_of_le hk22.2 (by decide)⟩
        refine lq_v (.ref (ad (73 + v2_17.toNatClampNeg))) rfl ?_
        have hFc := fr_all (wR_D nu17_ hD) hS hA
        refine va_callv (va_runV (As := [.ref (ad (73 + v2_17.toNatClampNeg))]) (rest := []) ⟨hx, hb, hml, hown, hts⟩ (sx_Letter_beLike l dC dI cs ad nu17_ ok H hP ((wR_D nu17_ hD).weaken (fun _ _ _ _ => trivial)) (61 + v2_17.toNatClampNeg) hk21.1 hk21.2 (73 + v2_17.toNatClampNeg) hk22.1 hk22.2) (cwV 1 hts (wU_V mw_3_229 mw_3_226 mw_3_227 mw_3_228 mw_1_4) rfl rfl rfl (by decide +kernel) ⟨Nat.le_of_ble_eq_true rfl, Nat.le_of_ble_eq_true rfl⟩) ⟨sz_c, va_recv hK hP (ci := 3) (q0 := (61 + v2_17.toNatClampNeg)) rfl (gX_letter cs ad nu17_ (61 + v2_17.toNatClampNeg) hk21.1 hk21.2), sz_m hK hz⟩ rfl rfl hl.1 rfl (lv_room (Nat.le_of_ble_eq_true rfl)) dX8_beLike_34 ⟨Nat.zero_le _, Nat.zero_le _⟩) hS (fun q _ h => hFc q h) hFc (fun xi23 t H23 locs ht hvm hw23 hB hz1 hk1 hS => ?_)
        have hP : va_P (dC, dI) vwCl (wR 157 ad (EX cs ad) xi23) H23 := by rw [← ht]; exact hB
        obtain ⟨ok, hw23, _⟩ := hw23
        refine lv_iinc (v := (v2_17 + 1)) (lv' := [(2, .int (v2_17 + 1)), (0, .ref (ad 5)), (1, .ref (ad 20))]) hx hb dX8_beLike_37 hl (k := 0) rfl rfl (by decide) rfl (fun ls hl => ?_)
        refine loc_gen (P := fun w9 => lv_has ls 3 [(2, .int w9), (0, .ref (ad 5)), (1, .ref (ad 20))]) (v2_17 + 1) hl (fun w24 hw24 hl => ?_)
        have hl : lv_has ls 3 [(2, .int w24), (0, .ref (ad 5)), (1, .ref (ad 20))] := hl
        have aw24 : w24.toInt = v2_17.toInt + 1 := by rw [← hw24]; exact tI_add (rfl : v2_17.toInt = _) (rfl : (1 : Int32).toInt = 1) (by omega) (by omega)
        refine lv_goto (tgt := 17) hx hb dX8_beLike_40 (by decide) ?_
        exact ih17 (w24) xi23 _ _ _ (by omega) (by exact ⟨by omega, by omega⟩)  ok hP   hS (lv_sub hl [0, 1, 2] rfl)
  exact loop17 ((4 + 1 - (0 : Int32).toInt).toNat + 1) (0) nu1 _ _ _ (Nat.lt_succ_self _) (by have h80 : (0 : Int32).toInt = 0 := rfl; exact ⟨by omega, by omega⟩)  ok hP   hS hl
set_option maxHeartbeats 4000000 in
set_option maxRecDepth 100000 in
/-- sx_Standing_beLike_18_5 -/
theorem sx_Standing_beLike_18_5 (l : Launch) (dC : Nat → ClassId) (dI : Nat → Nat → Nat) (cs : Nat → ClassId) (ad : Nat → Nat) (mu : Nat → Nat → Int32) (ok : okR loX hiX mu) (H : Heap) (hP : va_P (dC, dI) vwCl (wR 157 ad (EX cs ad) mu) H) (hD0 : va_D (fun _ => True) (wR 157 ad (EX cs ad) mu)) : Met l yX8_beLike (wU yX8_beLike cX8_beLike 3 none) ({ frames := 1, cells := 0, slots := 0, locals := 60 }) (va_Pc [.ref (ad 18), .ref (ad 5)] (sz_P (dC, dI) vwCl (tyW cs) H)) (va_Qv (fun (xi : Nat → Nat → Int32) => okR loX hiX xi ∧ (True) ∧ True) (fun xi t => va_P (dC, dI) vwCl (wR 157 ad (EX cs ad) xi) t.heap) (va_A (wR 157 ad (EX cs ad) mu) H.size)) 0 0 (va_A (wR 157 ad (EX cs ad) mu) H.size) := by
  refine Met.ofW (cc := cX8_beLike) (maxL := 3) (ret := none) (by decide) rfl ?_
  intro p e s m args below meth c s₁ B hml hv
  obtain ⟨rfl, hh, hK, hz⟩ := hv
  have hx := B.exec
  have hb := B.bytes
  have hr := B.returns
  have hts := atoms_spec (ws := (wU yX8_beLike cX8_beLike 3 none)) B.pre
  have hown : s.vm.findClass RX8 = some m.cls := findClass_of_methodNamed B.named
  have hlocks := B.notSynchronized
  subst hh
  have hD := hD0.self (sz := s.heap.size)
  have hA : ∀ q : Nat, s.heap.size ≤ q → (va_A (wR 157 ad (EX cs ad) mu) s.heap.size) q := fun q h => Or.inr h
  have hS : va_S (va_A (wR 157 ad (EX cs ad) mu) s.heap.size) s.heap s.heap [] := va_S.rf
  have hl := lv_entry ([.ref (ad 18), .ref (ad 5)]) (n := 3) (Nat.le_of_ble_eq_true rfl)
  rw [lg_entry_eq]
  generalize (lg_sl ([.ref (ad 18), .ref (ad 5)]) ++ List.replicate (3 - (lg_sl ([.ref (ad 18), .ref (ad 5)])).length) Slot.unset).toArray = ls at hl ⊢
  have hl : lv_has ls 3 [(0, .ref (ad 18)), (1, .ref (ad 5))] := hl
  refine lv_aload_n hx hb dX8_beLike_0 rfl (lv_at hl 1 rfl) ?_
  refine va_get (D := (dC, dI)) (ci := 8) (v := .ref (ad 46)) (C := RX8) (T := TX8) (N := 6) hx hb hts inG8 hown hK hP 5 (gX_5 cs ad mu) rfl 0 (by decide) (hts _ (List.mem_cons_of_mem _ mw_1_103)) (fun _ h9 => h9) rfl dX8_beLike_1 ?_
  refine lv_iconst (v := 0) hx hb dX8_beLike_4 (by decide) ?_
  refine lv_aload_n hx hb dX8_beLike_5 rfl (lv_at hl 0 rfl) ?_
  refine va_get (D := (dC, dI)) (ci := 8) (v := .ref (ad 40)) (C := RX8) (T := TX8) (N := 6) hx hb hts inG8 hown hK hP 18 (gX_18 cs ad mu) rfl 0 (by decide) (hts _ (List.mem_cons_of_mem _ mw_1_103)) (fun _ h9 => h9) rfl dX8_beLike_6 ?_
  refine lv_iconst (v := 0) hx hb dX8_beLike_9 (by decide) ?_
  refine lv_bipush (v := 7) hx hb dX8_beLike_10 (by decide) ?_
  refine va_copyi hx hb (hml.trans hl.1.symm) hown (hts _ (List.mem_cons_of_mem _ mw_3_225)) (hts _ (List.mem_cons_of_mem _ mw_3_4)) (hts _ (List.mem_cons_of_mem _ mw_3_3)) (hts _ (List.mem_cons_of_mem _ mw_1_15)) hK hP (wR_D mu hD) hS 46 40 0 0 (gX_46 cs ad mu) (gX_40 cs ad mu) rfl rfl rfl (by decide) (by decide) (by decide) (by have ua : ((0 : Int32).toNatClampNeg : Int) = 0 := rfl; have ub : ((0 : Int32).toNatClampNeg : Int) = 0 := rfl; have uc : ((7 : Int32).toNatClampNeg : Int) = 7 := rfl; omega) (by have ua : ((0 : Int32).toNatClampNeg : Int) = 0 := rfl; have ub : ((0 : Int32).toNatClampNeg : Int) = 0 := rfl; have uc : ((7 : Int32).toNatClampNeg : Int) = 7 := rfl; omega) (fun _ _ => rfl) (Nat.le_of_ble_eq_true rfl) (Nat.le_of_ble_eq_true rfl) dX8_beLike_12 (fun H locs hP _ hS => ?_)
  refine wr_gen (va_cpy (mu 46) (mu 40) (0 : Int32).toNatClampNeg (0 : Int32).toNatClampNeg (7 : Int32).toNatClampNeg) hP (rfl) (fun nu1 hn1 hP => ?_)
  have ok := okR_cp ok hn1 (cX_46_40  )
  refine lv_iconst (v := 0) hx hb dX8_beLike_15 (by decide) ?_
  refine lv_istore_n (lv' := [(2, .int 0), (0, .ref (ad 18)), (1, .ref (ad 5))]) hx hb dX8_beLike_16 rfl hl (by decide) rfl (fun ls hl => ?_)
  have loop17 : ∀ (n17 : Nat) (v2_17 : Int32) (nu17_ : Nat → Nat → Int32) (H : Heap) (locs : List Loc) (ls : Array Slot), (4 + 1 - v2_17.toInt).toNat < n17 → (0 ≤ v2_17.toInt ∧ v2_17.toInt ≤ 4) → okR loX hiX nu17_ → va_P (dC, dI) vwCl (wR 157 ad (EX cs ad) nu17_) H → va_S (va_A (wR 157 ad (EX cs ad) mu) s.heap.size) s.heap H locs → lv_has ls 3 [(2, .int v2_17), (0, .ref (ad 18)), (1, .ref (ad 5))] → W p l e (headSpec (wU yX8_beLike cX8_beLike 3 none) ({ frames := 1, cells := 0, slots := 0, locals := 60 })).room s m ([.ref (ad 18), .ref (ad 5)] : List Value).toArray below meth c H locs 0 0 (MQ below (va_Qv (fun (xi : Nat → Nat → Int32) => okR loX hiX xi ∧ (True) ∧ True) (fun xi t => va_P (dC, dI) vwCl (wR 157 ad (EX cs ad) xi) t.heap) (va_A (wR 157 ad (EX cs ad) mu) s.heap.size)) ([.ref (ad 18), .ref (ad 5)] : List Value).toArray s 0 0 (va_A (wR 157 ad (EX cs ad) mu) s.heap.size)) (F0 m 17 ls []) := by
    intro n17
    induction n17 with
    | zero => intro v2_17 nu17_ H locs ls hm; exact absurd hm (Nat.not_lt_zero _)
    | succ n17 ih17 =>
      intro v2_17 nu17_ H locs ls hm h_v2_17 ok hP hS hl
      refine lv_iload_n hx hb dX8_beLike_17 rfl (lv_at hl 0 rfl) ?_
      refine lv_iconst (v := 4) hx hb dX8_beLike_18 (by decide) ?_
      refine lv_icmp_ge (tgt := 43) hx hb dX8_beLike_19 (by decide) (fun c_2 => ?_) (fun c_2 => ?_)
      · have c_2 : 4 ≤ v2_17.toInt := il_le c_2
        refine lv_aload_n hx hb dX8_beLike_43 rfl (lv_at hl 1 rfl) ?_
        refine lv_aload_n hx hb dX8_beLike_44 rfl (lv_at hl 2 rfl) ?_
        refine va_get (D := (dC, dI)) (ci := 8) (v := .int (nu17_ 5 2)) (C := RX8) (T := TX8) (N := 6) hx hb hts inG8 hown hK hP 5 (gX_5 cs ad nu17_) rfl 2 (by decide) (hts _ (List.mem_cons_of_mem _ mw_1_113)) (fun _ h9 => h9) rfl dX8_beLike_45 ?_
        refine lv_topi (fun y3 ey3 => ?_)
        have by3 : y3.toInt = (nu17_ 5 2).toInt := congrArg Int32.toInt ey3
        refine va_put (D := (dC, dI)) (ci := 8) (v := .int y3) (ty := .int) (C := RX8) (T := TX8) (N := 6) hx hb hts inG8 tyX8 tyX8_ok nmX8 hown hK hP (wR_D nu17_ hD) hS 18 (gX_18 cs ad nu17_) rfl 2 (by decide) (hts _ (List.mem_cons_of_mem _ mw_1_113)) (fun _ h9 => h9) rfl (by decide +kernel) rfl rfl (Nat.le_of_ble_eq_true rfl) dX8_beLike_48 (fun H locs hP _ hS => ?_)
        simp only [List.set_cons_succ, List.set_cons_zero] at hP
        refine wr_gen (upd (nu17_ 18) 2 y3) hP ((hX_18_2 cs ad _ _)) (fun nu4 hn4 hP => ?_)
        have ok := tX_18_2 ok hn4
        have ez5 : y3 = nu4 5 2 := ey3.trans (congrFun (up_k hn4 (by decide)) 2).symm
        have ez6 : y3 = nu4 18 2 := up_v hn4
        refine lv_aload_n hx hb dX8_beLike_51 rfl (lv_at hl 1 rfl) ?_
        refine lv_aload_n hx hb dX8_beLike_52 rfl (lv_at hl 2 rfl) ?_
        refine va_get (D := (dC, dI)) (ci := 8) (v := .int (nu4 5 3)) (C := RX8) (T := TX8) (N := 6) hx hb hts inG8 hown hK hP 5 (gX_5 cs ad nu4) rfl 3 (by decide) (hts _ (List.mem_cons_of_mem _ mw_1_120)) (fun _ h9 => h9) rfl dX8_beLike_53 ?_
        refine lv_topi (fun y7 ey7 => ?_)
        have by7 : y7.toInt = (nu4 5 3).toInt := congrArg Int32.toInt ey7
        refine va_put (D := (dC, dI)) (ci := 8) (v := .int y7) (ty := .int) (C := RX8) (T := TX8) (N := 6) hx hb hts inG8 tyX8 tyX8_ok nmX8 hown hK hP (wR_D nu4 hD) hS 18 (gX_18 cs ad nu4) rfl 3 (by decide) (hts _ (List.mem_cons_of_mem _ mw_1_120)) (fun _ h9 => h9) rfl (by decide +kernel) rfl rfl (Nat.le_of_ble_eq_true rfl) dX8_beLike_56 (fun H locs hP _ hS => ?_)
        simp only [List.set_cons_succ, List.set_cons_zero] at hP
        refine wr_gen (upd (nu4 18) 3 y7) hP ((hX_18_3 cs ad _ _)) (fun nu8 hn8 hP => ?_)
        have ok := tX_18_3 ok hn8
        have ez9 : y3 = nu8 5 2 := ez5.trans (congrFun (up_k hn8 (by decide)) 2).symm
        have ez10 : y3 = nu8 18 2 := ez6.trans (up_f hn8 (by decide)).symm
        have ez11 : y7 = nu8 5 3 := ey7.trans (congrFun (up_k hn8 (by decide)) 3).symm
        have ez12 : y7 = nu8 18 3 := up_v hn8
        refine lv_aload_n hx hb dX8_beLike_59 rfl (lv_at hl 1 rfl) ?_
        refine lv_aload_n hx hb dX8_beLike_60 rfl (lv_at hl 2 rfl) ?_
        refine va_get (D := (dC, dI)) (ci := 8) (v := .int (nu8 5 4)) (C := RX8) (T := TX8) (N := 6) hx hb hts inG8 hown hK hP 5 (gX_5 cs ad nu8) rfl 4 (by decide) (hts _ (List.mem_cons_of_mem _ mw_1_125)) (fun _ h9 => h9) rfl dX8_beLike_61 ?_
        refine lv_topi (fun y13 ey13 => ?_)
        have by13 : y13.toInt = (nu8 5 4).toInt := congrArg Int32.toInt ey13
        have gy13 : 0 ≤ y13.toInt ∧ y13.toInt ≤ 4 := by rw [ey13]; exact rX_5_4 ok
        refine va_put (D := (dC, dI)) (ci := 8) (v := .int y13) (ty := .int) (C := RX8) (T := TX8) (N := 6) hx hb hts inG8 tyX8 tyX8_ok nmX8 hown hK hP (wR_D nu8 hD) hS 18 (gX_18 cs ad nu8) rfl 4 (by decide) (hts _ (List.mem_cons_of_mem _ mw_1_125)) (fun _ h9 => h9) rfl (by decide +kernel) rfl rfl (Nat.le_of_ble_eq_true rfl) dX8_beLike_64 (fun H locs hP _ hS => ?_)
        simp only [List.set_cons_succ, List.set_cons_zero] at hP
        refine wr_gen (upd (nu8 18) 4 y13) hP ((hX_18_4 cs ad _ _)) (fun nu14 hn14 hP => ?_)
        have ok := tX_18_4 ok hn14 (by exact ⟨by omega, by omega⟩)
        have ez15 : y3 = nu14 5 2 := ez9.trans (congrFun (up_k hn14 (by decide)) 2).symm
        have ez16 : y3 = nu14 18 2 := ez10.trans (up_f hn14 (by decide)).symm
        have ez17 : y7 = nu14 5 3 := ez11.trans (congrFun (up_k hn14 (by decide)) 3).symm
        have ez18 : y7 = nu14 18 3 := ez12.trans (up_f hn14 (by decide)).symm
        have ez19 : y13 = nu14 5 4 := ey13.trans (congrFun (up_k hn14 (by decide)) 4).symm
        have ez20 : y13 = nu14 18 4 := up_v hn14
        exact W.vret hx hb hr (fun t ht hW => ⟨⟨nu14, rfl, ⟨ok, trivial, trivial⟩, by first | (subst ht; exact hP) | (rw [ht]; exact hP) | (show va_P (dC, dI) vwCl (wR 157 ad (EX cs ad) nu14) t.heap; rw [ht]; exact hP)⟩, hS.F ht⟩) hS.2.2 dX8_beLike_67
      · have c_2 : v2_17.toInt < 4 := il_nle c_2
        refine lv_aload_n hx hb dX8_beLike_22 rfl (lv_at hl 1 rfl) ?_
        refine va_get (D := (dC, dI)) (ci := 8) (v := .ref (ad 43)) (C := RX8) (T := TX8) (N := 6) hx hb hts inG8 hown hK hP 18 (gX_18 cs ad nu17_) rfl 1 (by decide) (hts _ (List.mem_cons_of_mem _ mw_1_109)) (fun _ h9 => h9) rfl dX8_beLike_23 ?_
        refine lv_iload_n hx hb dX8_beLike_26 rfl (lv_at hl 0 rfl) ?_
        have hx21 : 0 ≤ v2_17.toInt ∧ v2_17.toInt < ((4 : Nat) : Int) := ⟨by omega, by omega⟩
        refine va_aldq hx hb hK hP 43 5 (gX_43 cs ad nu17_) rfl (show vp_in v2_17 4 from vi_of hx21.1 hx21.2) dX8_beLike_27 ?_
        have hk21 : 65 ≤ (65 + v2_17.toNatClampNeg) ∧ (65 + v2_17.toNatClampNeg) < 69 := ix_of hx21
        have hk21 : 61 ≤ (65 + v2_17.toNatClampNeg) ∧ (65 + v2_17.toNatClampNeg) < 77 := ⟨Nat.le_trans (by decide) hk21.1, Nat.lt_of_lt_of_le hk21.2 (by decide)⟩
        refine lq_v (.ref (ad (65 + v2_17.toNatClampNeg))) rfl ?_
        refine lv_aload_n hx hb dX8_beLike_28 rfl (lv_at hl 2 rfl) ?_
        refine va_get (D := (dC, dI)) (ci := 8) (v := .ref (ad 47)) (C := RX8) (T := TX8) (N := 6) hx hb hts inG8 hown hK hP 5 (gX_5 cs ad nu17_) rfl 1 (by decide) (hts _ (List.mem_cons_of_mem _ mw_1_109)) (fun _ h9 => h9) rfl dX8_beLike_29 ?_
        refine lv_iload_n hx hb dX8_beLike_32 rfl (lv_at hl 0 rfl) ?_
        have hx22 : 0 ≤ v2_17.toInt ∧ v2_17.toInt < ((4 : Nat) : Int) := ⟨by omega, by omega⟩
        refine va_aldq hx hb hK hP 47 5 (gX_47 cs ad nu17_) rfl (show vp_in v2_17 4 from vi_of hx22.1 hx22.2) dX8_beLike_33 ?_
        have hk22 : 61 ≤ (61 + v2_17.toNatClampNeg) ∧ (61 + v2_17.toNatClampNeg) < 65 := ix_of hx22
        have hk22 : 61 ≤ (61 + v2_17.toNatClampNeg) ∧ (61 + v2_17.toNatClampNeg) < 77 := ⟨Nat.le_trans (by decide) hk22.1, Nat.lt_of_lt_of_le hk22.2 (by decide)⟩
        refine lq_v (.ref (ad (61 + v2_17.toNatClampNeg))) rfl ?_
        have hFc := fr_all (wR_D nu17_ hD) hS hA
        refine va_callv (va_runV (As := [.ref (ad (61 + v2_17.toNatClampNeg))]) (rest := []) ⟨hx, hb, hml, hown, hts⟩ (sx_Letter_beLike l dC dI cs ad nu17_ ok H hP ((wR_D nu17_ hD).weaken (fun _ _ _ _ => trivial)) (65 + v2_17.toNatClampNeg) hk21.1 hk21.2 (61 + v2_17.toNatClampNeg) hk22.1 hk22.2) (cwV 1 hts (wU_V mw_3_229 mw_3_226 mw_3_227 mw_3_228 mw_1_4) rfl rfl rfl (by decide +kernel) ⟨Nat.le_of_ble_eq_true rfl, Nat.le_of_ble_eq_true rfl⟩) ⟨sz_c, va_recv hK hP (ci := 3) (q0 := (65 + v2_17.toNatClampNeg)) rfl (gX_letter cs ad nu17_ (65 + v2_17.toNatClampNeg) hk21.1 hk21.2), sz_m hK hz⟩ rfl rfl hl.1 rfl (lv_room (Nat.le_of_ble_eq_true rfl)) dX8_beLike_34 ⟨Nat.zero_le _, Nat.zero_le _⟩) hS (fun q _ h => hFc q h) hFc (fun xi23 t H23 locs ht hvm hw23 hB hz1 hk1 hS => ?_)
        have hP : va_P (dC, dI) vwCl (wR 157 ad (EX cs ad) xi23) H23 := by rw [← ht]; exact hB
        obtain ⟨ok, hw23, _⟩ := hw23
        refine lv_iinc (v := (v2_17 + 1)) (lv' := [(2, .int (v2_17 + 1)), (0, .ref (ad 18)), (1, .ref (ad 5))]) hx hb dX8_beLike_37 hl (k := 0) rfl rfl (by decide) rfl (fun ls hl => ?_)
        refine loc_gen (P := fun w9 => lv_has ls 3 [(2, .int w9), (0, .ref (ad 18)), (1, .ref (ad 5))]) (v2_17 + 1) hl (fun w24 hw24 hl => ?_)
        have hl : lv_has ls 3 [(2, .int w24), (0, .ref (ad 18)), (1, .ref (ad 5))] := hl
        have aw24 : w24.toInt = v2_17.toInt + 1 := by rw [← hw24]; exact tI_add (rfl : v2_17.toInt = _) (rfl : (1 : Int32).toInt = 1) (by omega) (by omega)
        refine lv_goto (tgt := 17) hx hb dX8_beLike_40 (by decide) ?_
        exact ih17 (w24) xi23 _ _ _ (by omega) (by exact ⟨by omega, by omega⟩)  ok hP   hS (lv_sub hl [0, 1, 2] rfl)
  exact loop17 ((4 + 1 - (0 : Int32).toInt).toNat + 1) (0) nu1 _ _ _ (Nat.lt_succ_self _) (by have h80 : (0 : Int32).toInt = 0 := rfl; exact ⟨by omega, by omega⟩)  ok hP   hS hl
set_option maxHeartbeats 4000000 in
set_option maxRecDepth 100000 in
/-- sx_Standing_beLike_19_5 -/
theorem sx_Standing_beLike_19_5 (l : Launch) (dC : Nat → ClassId) (dI : Nat → Nat → Nat) (cs : Nat → ClassId) (ad : Nat → Nat) (mu : Nat → Nat → Int32) (ok : okR loX hiX mu) (H : Heap) (hP : va_P (dC, dI) vwCl (wR 157 ad (EX cs ad) mu) H) (hD0 : va_D (fun _ => True) (wR 157 ad (EX cs ad) mu)) : Met l yX8_beLike (wU yX8_beLike cX8_beLike 3 none) ({ frames := 1, cells := 0, slots := 0, locals := 60 }) (va_Pc [.ref (ad 19), .ref (ad 5)] (sz_P (dC, dI) vwCl (tyW cs) H)) (va_Qv (fun (xi : Nat → Nat → Int32) => okR loX hiX xi ∧ (True) ∧ True) (fun xi t => va_P (dC, dI) vwCl (wR 157 ad (EX cs ad) xi) t.heap) (va_A (wR 157 ad (EX cs ad) mu) H.size)) 0 0 (va_A (wR 157 ad (EX cs ad) mu) H.size) := by
  refine Met.ofW (cc := cX8_beLike) (maxL := 3) (ret := none) (by decide) rfl ?_
  intro p e s m args below meth c s₁ B hml hv
  obtain ⟨rfl, hh, hK, hz⟩ := hv
  have hx := B.exec
  have hb := B.bytes
  have hr := B.returns
  have hts := atoms_spec (ws := (wU yX8_beLike cX8_beLike 3 none)) B.pre
  have hown : s.vm.findClass RX8 = some m.cls := findClass_of_methodNamed B.named
  have hlocks := B.notSynchronized
  subst hh
  have hD := hD0.self (sz := s.heap.size)
  have hA : ∀ q : Nat, s.heap.size ≤ q → (va_A (wR 157 ad (EX cs ad) mu) s.heap.size) q := fun q h => Or.inr h
  have hS : va_S (va_A (wR 157 ad (EX cs ad) mu) s.heap.size) s.heap s.heap [] := va_S.rf
  have hl := lv_entry ([.ref (ad 19), .ref (ad 5)]) (n := 3) (Nat.le_of_ble_eq_true rfl)
  rw [lg_entry_eq]
  generalize (lg_sl ([.ref (ad 19), .ref (ad 5)]) ++ List.replicate (3 - (lg_sl ([.ref (ad 19), .ref (ad 5)])).length) Slot.unset).toArray = ls at hl ⊢
  have hl : lv_has ls 3 [(0, .ref (ad 19)), (1, .ref (ad 5))] := hl
  refine lv_aload_n hx hb dX8_beLike_0 rfl (lv_at hl 1 rfl) ?_
  refine va_get (D := (dC, dI)) (ci := 8) (v := .ref (ad 46)) (C := RX8) (T := TX8) (N := 6) hx hb hts inG8 hown hK hP 5 (gX_5 cs ad mu) rfl 0 (by decide) (hts _ (List.mem_cons_of_mem _ mw_1_103)) (fun _ h9 => h9) rfl dX8_beLike_1 ?_
  refine lv_iconst (v := 0) hx hb dX8_beLike_4 (by decide) ?_
  refine lv_aload_n hx hb dX8_beLike_5 rfl (lv_at hl 0 rfl) ?_
  refine va_get (D := (dC, dI)) (ci := 8) (v := .ref (ad 41)) (C := RX8) (T := TX8) (N := 6) hx hb hts inG8 hown hK hP 19 (gX_19 cs ad mu) rfl 0 (by decide) (hts _ (List.mem_cons_of_mem _ mw_1_103)) (fun _ h9 => h9) rfl dX8_beLike_6 ?_
  refine lv_iconst (v := 0) hx hb dX8_beLike_9 (by decide) ?_
  refine lv_bipush (v := 7) hx hb dX8_beLike_10 (by decide) ?_
  refine va_copyi hx hb (hml.trans hl.1.symm) hown (hts _ (List.mem_cons_of_mem _ mw_3_225)) (hts _ (List.mem_cons_of_mem _ mw_3_4)) (hts _ (List.mem_cons_of_mem _ mw_3_3)) (hts _ (List.mem_cons_of_mem _ mw_1_15)) hK hP (wR_D mu hD) hS 46 41 0 0 (gX_46 cs ad mu) (gX_41 cs ad mu) rfl rfl rfl (by decide) (by decide) (by decide) (by have ua : ((0 : Int32).toNatClampNeg : Int) = 0 := rfl; have ub : ((0 : Int32).toNatClampNeg : Int) = 0 := rfl; have uc : ((7 : Int32).toNatClampNeg : Int) = 7 := rfl; omega) (by have ua : ((0 : Int32).toNatClampNeg : Int) = 0 := rfl; have ub : ((0 : Int32).toNatClampNeg : Int) = 0 := rfl; have uc : ((7 : Int32).toNatClampNeg : Int) = 7 := rfl; omega) (fun _ _ => rfl) (Nat.le_of_ble_eq_true rfl) (Nat.le_of_ble_eq_true rfl) dX8_beLike_12 (fun H locs hP _ hS => ?_)
  refine wr_gen (va_cpy (mu 46) (mu 41) (0 : Int32).toNatClampNeg (0 : Int32).toNatClampNeg (7 : Int32).toNatClampNeg) hP (rfl) (fun nu1 hn1 hP => ?_)
  have ok := okR_cp ok hn1 (cX_46_41  )
  refine lv_iconst (v := 0) hx hb dX8_beLike_15 (by decide) ?_
  refine lv_istore_n (lv' := [(2, .int 0), (0, .ref (ad 19)), (1, .ref (ad 5))]) hx hb dX8_beLike_16 rfl hl (by decide) rfl (fun ls hl => ?_)
  have loop17 : ∀ (n17 : Nat) (v2_17 : Int32) (nu17_ : Nat → Nat → Int32) (H : Heap) (locs : List Loc) (ls : Array Slot), (4 + 1 - v2_17.toInt).toNat < n17 → (0 ≤ v2_17.toInt ∧ v2_17.toInt ≤ 4) → okR loX hiX nu17_ → va_P (dC, dI) vwCl (wR 157 ad (EX cs ad) nu17_) H → va_S (va_A (wR 157 ad (EX cs ad) mu) s.heap.size) s.heap H locs → lv_has ls 3 [(2, .int v2_17), (0, .ref (ad 19)), (1, .ref (ad 5))] → W p l e (headSpec (wU yX8_beLike cX8_beLike 3 none) ({ frames := 1, cells := 0, slots := 0, locals := 60 })).room s m ([.ref (ad 19), .ref (ad 5)] : List Value).toArray below meth c H locs 0 0 (MQ below (va_Qv (fun (xi : Nat → Nat → Int32) => okR loX hiX xi ∧ (True) ∧ True) (fun xi t => va_P (dC, dI) vwCl (wR 157 ad (EX cs ad) xi) t.heap) (va_A (wR 157 ad (EX cs ad) mu) s.heap.size)) ([.ref (ad 19), .ref (ad 5)] : List Value).toArray s 0 0 (va_A (wR 157 ad (EX cs ad) mu) s.heap.size)) (F0 m 17 ls []) := by
    intro n17
    induction n17 with
    | zero => intro v2_17 nu17_ H locs ls hm; exact absurd hm (Nat.not_lt_zero _)
    | succ n17 ih17 =>
      intro v2_17 nu17_ H locs ls hm h_v2_17 ok hP hS hl
      refine lv_iload_n hx hb dX8_beLike_17 rfl (lv_at hl 0 rfl) ?_
      refine lv_iconst (v := 4) hx hb dX8_beLike_18 (by decide) ?_
      refine lv_icmp_ge (tgt := 43) hx hb dX8_beLike_19 (by decide) (fun c_2 => ?_) (fun c_2 => ?_)
      · have c_2 : 4 ≤ v2_17.toInt := il_le c_2
        refine lv_aload_n hx hb dX8_beLike_43 rfl (lv_at hl 1 rfl) ?_
        refine lv_aload_n hx hb dX8_beLike_44 rfl (lv_at hl 2 rfl) ?_
        refine va_get (D := (dC, dI)) (ci := 8) (v := .int (nu17_ 5 2)) (C := RX8) (T := TX8) (N := 6) hx hb hts inG8 hown hK hP 5 (gX_5 cs ad nu17_) rfl 2 (by decide) (hts _ (List.mem_cons_of_mem _ mw_1_113)) (fun _ h9 => h9) rfl dX8_beLike_45 ?_
        refine lv_topi (fun y3 ey3 => ?_)
        have by3 : y3.toInt = (nu17_ 5 2).toInt := congrArg Int32.toInt ey3
        refine va_put (D := (dC, dI)) (ci := 8) (v := .int y3) (ty := .int) (C := RX8) (T := TX8) (N := 6) hx hb hts inG8 tyX8 tyX8_ok nmX8 hown hK hP (wR_D nu17_ hD) hS 19 (gX_19 cs ad nu17_) rfl 2 (by decide) (hts _ (List.mem_cons_of_mem _ mw_1_113)) (fun _ h9 => h9) rfl (by decide +kernel) rfl rfl (Nat.le_of_ble_eq_true rfl) dX8_beLike_48 (fun H locs hP _ hS => ?_)
        simp only [List.set_cons_succ, List.set_cons_zero] at hP
        refine wr_gen (upd (nu17_ 19) 2 y3) hP ((hX_19_2 cs ad _ _)) (fun nu4 hn4 hP => ?_)
        have ok := tX_19_2 ok hn4
        have ez5 : y3 = nu4 5 2 := ey3.trans (congrFun (up_k hn4 (by decide)) 2).symm
        have ez6 : y3 = nu4 19 2 := up_v hn4
        refine lv_aload_n hx hb dX8_beLike_51 rfl (lv_at hl 1 rfl) ?_
        refine lv_aload_n hx hb dX8_beLike_52 rfl (lv_at hl 2 rfl) ?_
        refine va_get (D := (dC, dI)) (ci := 8) (v := .int (nu4 5 3)) (C := RX8) (T := TX8) (N := 6) hx hb hts inG8 hown hK hP 5 (gX_5 cs ad nu4) rfl 3 (by decide) (hts _ (List.mem_cons_of_mem _ mw_1_120)) (fun _ h9 => h9) rfl dX8_beLike_53 ?_
        refine lv_topi (fun y7 ey7 => ?_)
        have by7 : y7.toInt = (nu4 5 3).toInt := congrArg Int32.toInt ey7
        refine va_put (D := (dC, dI)) (ci := 8) (v := .int y7) (ty := .int) (C := RX8) (T := TX8) (N := 6) hx hb hts inG8 tyX8 tyX8_ok nmX8 hown hK hP (wR_D nu4 hD) hS 19 (gX_19 cs ad nu4) rfl 3 (by decide) (hts _ (List.mem_cons_of_mem _ mw_1_120)) (fun _ h9 => h9) rfl (by decide +kernel) rfl rfl (Nat.le_of_ble_eq_true rfl) dX8_beLike_56 (fun H locs hP _ hS => ?_)
        simp only [List.set_cons_succ, List.set_cons_zero] at hP
        refine wr_gen (upd (nu4 19) 3 y7) hP ((hX_19_3 cs ad _ _)) (fun nu8 hn8 hP => ?_)
        have ok := tX_19_3 ok hn8
        have ez9 : y3 = nu8 5 2 := ez5.trans (congrFun (up_k hn8 (by decide)) 2).symm
        have ez10 : y3 = nu8 19 2 := ez6.trans (up_f hn8 (by decide)).symm
        have ez11 : y7 = nu8 5 3 := ey7.trans (congrFun (up_k hn8 (by decide)) 3).symm
        have ez12 : y7 = nu8 19 3 := up_v hn8
        refine lv_aload_n hx hb dX8_beLike_59 rfl (lv_at hl 1 rfl) ?_
        refine lv_aload_n hx hb dX8_beLike_60 rfl (lv_at hl 2 rfl) ?_
        refine va_get (D := (dC, dI)) (ci := 8) (v := .int (nu8 5 4)) (C := RX8) (T := TX8) (N := 6) hx hb hts inG8 hown hK hP 5 (gX_5 cs ad nu8) rfl 4 (by decide) (hts _ (List.mem_cons_of_mem _ mw_1_125)) (fun _ h9 => h9) rfl dX8_beLike_61 ?_
        refine lv_topi (fun y13 ey13 => ?_)
        have by13 : y13.toInt = (nu8 5 4).toInt := congrArg Int32.toInt ey13
        have gy13 : 0 ≤ y13.toInt ∧ y13.toInt ≤ 4 := by rw [ey13]; exact rX_5_4 ok
        refine va_put (D := (dC, dI)) (ci := 8) (v := .int y13) (ty := .int) (C := RX8) (T := TX8) (N := 6) hx hb hts inG8 tyX8 tyX8_ok nmX8 hown hK hP (wR_D nu8 hD) hS 19 (gX_19 cs ad nu8) rfl 4 (by decide) (hts _ (List.mem_cons_of_mem _ mw_1_125)) (fun _ h9 => h9) rfl (by decide +kernel) rfl rfl (Nat.le_of_ble_eq_true rfl) dX8_beLike_64 (fun H locs hP _ hS => ?_)
        simp only [List.set_cons_succ, List.set_cons_zero] at hP
        refine wr_gen (upd (nu8 19) 4 y13) hP ((hX_19_4 cs ad _ _)) (fun nu14 hn14 hP => ?_)
        have ok := tX_19_4 ok hn14 (by exact ⟨by omega, by omega⟩)
        have ez15 : y3 = nu14 5 2 := ez9.trans (congrFun (up_k hn14 (by decide)) 2).symm
        have ez16 : y3 = nu14 19 2 := ez10.trans (up_f hn14 (by decide)).symm
        have ez17 : y7 = nu14 5 3 := ez11.trans (congrFun (up_k hn14 (by decide)) 3).symm
        have ez18 : y7 = nu14 19 3 := ez12.trans (up_f hn14 (by decide)).symm
        have ez19 : y13 = nu14 5 4 := ey13.trans (congrFun (up_k hn14 (by decide)) 4).symm
        have ez20 : y13 = nu14 19 4 := up_v hn14
        exact W.vret hx hb hr (fun t ht hW => ⟨⟨nu14, rfl, ⟨ok, trivial, trivial⟩, by first | (subst ht; exact hP) | (rw [ht]; exact hP) | (show va_P (dC, dI) vwCl (wR 157 ad (EX cs ad) nu14) t.heap; rw [ht]; exact hP)⟩, hS.F ht⟩) hS.2.2 dX8_beLike_67
      · have c_2 : v2_17.toInt < 4 := il_nle c_2
        refine lv_aload_n hx hb dX8_beLike_22 rfl (lv_at hl 1 rfl) ?_
        refine va_get (D := (dC, dI)) (ci := 8) (v := .ref (ad 44)) (C := RX8) (T := TX8) (N := 6) hx hb hts inG8 hown hK hP 19 (gX_19 cs ad nu17_) rfl 1 (by decide) (hts _ (List.mem_cons_of_mem _ mw_1_109)) (fun _ h9 => h9) rfl dX8_beLike_23 ?_
        refine lv_iload_n hx hb dX8_beLike_26 rfl (lv_at hl 0 rfl) ?_
        have hx21 : 0 ≤ v2_17.toInt ∧ v2_17.toInt < ((4 : Nat) : Int) := ⟨by omega, by omega⟩
        refine va_aldq hx hb hK hP 44 5 (gX_44 cs ad nu17_) rfl (show vp_in v2_17 4 from vi_of hx21.1 hx21.2) dX8_beLike_27 ?_
        have hk21 : 69 ≤ (69 + v2_17.toNatClampNeg) ∧ (69 + v2_17.toNatClampNeg) < 73 := ix_of hx21
        have hk21 : 61 ≤ (69 + v2_17.toNatClampNeg) ∧ (69 + v2_17.toNatClampNeg) < 77 := ⟨Nat.le_trans (by decide) hk21.1, Nat.lt_of_lt_of_le hk21.2 (by decide)⟩
        refine lq_v (.ref (ad (69 + v2_17.toNatClampNeg))) rfl ?_
        refine lv_aload_n hx hb dX8_beLike_28 rfl (lv_at hl 2 rfl) ?_
        refine va_get (D := (dC, dI)) (ci := 8) (v := .ref (ad 47)) (C := RX8) (T := TX8) (N := 6) hx hb hts inG8 hown hK hP 5 (gX_5 cs ad nu17_) rfl 1 (by decide) (hts _ (List.mem_cons_of_mem _ mw_1_109)) (fun _ h9 => h9) rfl dX8_beLike_29 ?_
        refine lv_iload_n hx hb dX8_beLike_32 rfl (lv_at hl 0 rfl) ?_
        have hx22 : 0 ≤ v2_17.toInt ∧ v2_17.toInt < ((4 : Nat) : Int) := ⟨by omega, by omega⟩
        refine va_aldq hx hb hK hP 47 5 (gX_47 cs ad nu17_) rfl (show vp_in v2_17 4 from vi_of hx22.1 hx22.2) dX8_beLike_33 ?_
        have hk22 : 61 ≤ (61 + v2_17.toNatClampNeg) ∧ (61 + v2_17.toNatClampNeg) < 65 := ix_of hx22
        have hk22 : 61 ≤ (61 + v2_17.toNatClampNeg) ∧ (61 + v2_17.toNatClampNeg) < 77 := ⟨Nat.le_trans (by decide) hk22.1, Nat.lt_of_lt_of_le hk22.2 (by decide)⟩
        refine lq_v (.ref (ad (61 + v2_17.toNatClampNeg))) rfl ?_
        have hFc := fr_all (wR_D nu17_ hD) hS hA
        refine va_callv (va_runV (As := [.ref (ad (61 + v2_17.toNatClampNeg))]) (rest := []) ⟨hx, hb, hml, hown, hts⟩ (sx_Letter_beLike l dC dI cs ad nu17_ ok H hP ((wR_D nu17_ hD).weaken (fun _ _ _ _ => trivial)) (69 + v2_17.toNatClampNeg) hk21.1 hk21.2 (61 + v2_17.toNatClampNeg) hk22.1 hk22.2) (cwV 1 hts (wU_V mw_3_229 mw_3_226 mw_3_227 mw_3_228 mw_1_4) rfl rfl rfl (by decide +kernel) ⟨Nat.le_of_ble_eq_true rfl, Nat.le_of_ble_eq_true rfl⟩) ⟨sz_c, va_recv hK hP (ci := 3) (q0 := (69 + v2_17.toNatClampNeg)) rfl (gX_letter cs ad nu17_ (69 + v2_17.toNatClampNeg) hk21.1 hk21.2), sz_m hK hz⟩ rfl rfl hl.1 rfl (lv_room (Nat.le_of_ble_eq_true rfl)) dX8_beLike_34 ⟨Nat.zero_le _, Nat.zero_le _⟩) hS (fun q _ h => hFc q h) hFc (fun xi23 t H23 locs ht hvm hw23 hB hz1 hk1 hS => ?_)
        have hP : va_P (dC, dI) vwCl (wR 157 ad (EX cs ad) xi23) H23 := by rw [← ht]; exact hB
        obtain ⟨ok, hw23, _⟩ := hw23
        refine lv_iinc (v := (v2_17 + 1)) (lv' := [(2, .int (v2_17 + 1)), (0, .ref (ad 19)), (1, .ref (ad 5))]) hx hb dX8_beLike_37 hl (k := 0) rfl rfl (by decide) rfl (fun ls hl => ?_)
        refine loc_gen (P := fun w9 => lv_has ls 3 [(2, .int w9), (0, .ref (ad 19)), (1, .ref (ad 5))]) (v2_17 + 1) hl (fun w24 hw24 hl => ?_)
        have hl : lv_has ls 3 [(2, .int w24), (0, .ref (ad 19)), (1, .ref (ad 5))] := hl
        have aw24 : w24.toInt = v2_17.toInt + 1 := by rw [← hw24]; exact tI_add (rfl : v2_17.toInt = _) (rfl : (1 : Int32).toInt = 1) (by omega) (by omega)
        refine lv_goto (tgt := 17) hx hb dX8_beLike_40 (by decide) ?_
        exact ih17 (w24) xi23 _ _ _ (by omega) (by exact ⟨by omega, by omega⟩)  ok hP   hS (lv_sub hl [0, 1, 2] rfl)
  exact loop17 ((4 + 1 - (0 : Int32).toInt).toNat + 1) (0) nu1 _ _ _ (Nat.lt_succ_self _) (by have h80 : (0 : Int32).toInt = 0 := rfl; exact ⟨by omega, by omega⟩)  ok hP   hS hl
set_option maxHeartbeats 4000000 in
set_option maxRecDepth 100000 in
/-- sx_Standing_beLike_20_5 -/
theorem sx_Standing_beLike_20_5 (l : Launch) (dC : Nat → ClassId) (dI : Nat → Nat → Nat) (cs : Nat → ClassId) (ad : Nat → Nat) (mu : Nat → Nat → Int32) (ok : okR loX hiX mu) (H : Heap) (hP : va_P (dC, dI) vwCl (wR 157 ad (EX cs ad) mu) H) (hD0 : va_D (fun _ => True) (wR 157 ad (EX cs ad) mu)) : Met l yX8_beLike (wU yX8_beLike cX8_beLike 3 none) ({ frames := 1, cells := 0, slots := 0, locals := 60 }) (va_Pc [.ref (ad 20), .ref (ad 5)] (sz_P (dC, dI) vwCl (tyW cs) H)) (va_Qv (fun (xi : Nat → Nat → Int32) => okR loX hiX xi ∧ (True) ∧ True) (fun xi t => va_P (dC, dI) vwCl (wR 157 ad (EX cs ad) xi) t.heap) (va_A (wR 157 ad (EX cs ad) mu) H.size)) 0 0 (va_A (wR 157 ad (EX cs ad) mu) H.size) := by
  refine Met.ofW (cc := cX8_beLike) (maxL := 3) (ret := none) (by decide) rfl ?_
  intro p e s m args below meth c s₁ B hml hv
  obtain ⟨rfl, hh, hK, hz⟩ := hv
  have hx := B.exec
  have hb := B.bytes
  have hr := B.returns
  have hts := atoms_spec (ws := (wU yX8_beLike cX8_beLike 3 none)) B.pre
  have hown : s.vm.findClass RX8 = some m.cls := findClass_of_methodNamed B.named
  have hlocks := B.notSynchronized
  subst hh
  have hD := hD0.self (sz := s.heap.size)
  have hA : ∀ q : Nat, s.heap.size ≤ q → (va_A (wR 157 ad (EX cs ad) mu) s.heap.size) q := fun q h => Or.inr h
  have hS : va_S (va_A (wR 157 ad (EX cs ad) mu) s.heap.size) s.heap s.heap [] := va_S.rf
  have hl := lv_entry ([.ref (ad 20), .ref (ad 5)]) (n := 3) (Nat.le_of_ble_eq_true rfl)
  rw [lg_entry_eq]
  generalize (lg_sl ([.ref (ad 20), .ref (ad 5)]) ++ List.replicate (3 - (lg_sl ([.ref (ad 20), .ref (ad 5)])).length) Slot.unset).toArray = ls at hl ⊢
  have hl : lv_has ls 3 [(0, .ref (ad 20)), (1, .ref (ad 5))] := hl
  refine lv_aload_n hx hb dX8_beLike_0 rfl (lv_at hl 1 rfl) ?_
  refine va_get (D := (dC, dI)) (ci := 8) (v := .ref (ad 46)) (C := RX8) (T := TX8) (N := 6) hx hb hts inG8 hown hK hP 5 (gX_5 cs ad mu) rfl 0 (by decide) (hts _ (List.mem_cons_of_mem _ mw_1_103)) (fun _ h9 => h9) rfl dX8_beLike_1 ?_
  refine lv_iconst (v := 0) hx hb dX8_beLike_4 (by decide) ?_
  refine lv_aload_n hx hb dX8_beLike_5 rfl (lv_at hl 0 rfl) ?_
  refine va_get (D := (dC, dI)) (ci := 8) (v := .ref (ad 42)) (C := RX8) (T := TX8) (N := 6) hx hb hts inG8 hown hK hP 20 (gX_20 cs ad mu) rfl 0 (by decide) (hts _ (List.mem_cons_of_mem _ mw_1_103)) (fun _ h9 => h9) rfl dX8_beLike_6 ?_
  refine lv_iconst (v := 0) hx hb dX8_beLike_9 (by decide) ?_
  refine lv_bipush (v := 7) hx hb dX8_beLike_10 (by decide) ?_
  refine va_copyi hx hb (hml.trans hl.1.symm) hown (hts _ (List.mem_cons_of_mem _ mw_3_225)) (hts _ (List.mem_cons_of_mem _ mw_3_4)) (hts _ (List.mem_cons_of_mem _ mw_3_3)) (hts _ (List.mem_cons_of_mem _ mw_1_15)) hK hP (wR_D mu hD) hS 46 42 0 0 (gX_46 cs ad mu) (gX_42 cs ad mu) rfl rfl rfl (by decide) (by decide) (by decide) (by have ua : ((0 : Int32).toNatClampNeg : Int) = 0 := rfl; have ub : ((0 : Int32).toNatClampNeg : Int) = 0 := rfl; have uc : ((7 : Int32).toNatClampNeg : Int) = 7 := rfl; omega) (by have ua : ((0 : Int32).toNatClampNeg : Int) = 0 := rfl; have ub : ((0 : Int32).toNatClampNeg : Int) = 0 := rfl; have uc : ((7 : Int32).toNatClampNeg : Int) = 7 := rfl; omega) (fun _ _ => rfl) (Nat.le_of_ble_eq_true rfl) (Nat.le_of_ble_eq_true rfl) dX8_beLike_12 (fun H locs hP _ hS => ?_)
  refine wr_gen (va_cpy (mu 46) (mu 42) (0 : Int32).toNatClampNeg (0 : Int32).toNatClampNeg (7 : Int32).toNatClampNeg) hP (rfl) (fun nu1 hn1 hP => ?_)
  have ok := okR_cp ok hn1 (cX_46_42  )
  refine lv_iconst (v := 0) hx hb dX8_beLike_15 (by decide) ?_
  refine lv_istore_n (lv' := [(2, .int 0), (0, .ref (ad 20)), (1, .ref (ad 5))]) hx hb dX8_beLike_16 rfl hl (by decide) rfl (fun ls hl => ?_)
  have loop17 : ∀ (n17 : Nat) (v2_17 : Int32) (nu17_ : Nat → Nat → Int32) (H : Heap) (locs : List Loc) (ls : Array Slot), (4 + 1 - v2_17.toInt).toNat < n17 → (0 ≤ v2_17.toInt ∧ v2_17.toInt ≤ 4) → okR loX hiX nu17_ → va_P (dC, dI) vwCl (wR 157 ad (EX cs ad) nu17_) H → va_S (va_A (wR 157 ad (EX cs ad) mu) s.heap.size) s.heap H locs → lv_has ls 3 [(2, .int v2_17), (0, .ref (ad 20)), (1, .ref (ad 5))] → W p l e (headSpec (wU yX8_beLike cX8_beLike 3 none) ({ frames := 1, cells := 0, slots := 0, locals := 60 })).room s m ([.ref (ad 20), .ref (ad 5)] : List Value).toArray below meth c H locs 0 0 (MQ below (va_Qv (fun (xi : Nat → Nat → Int32) => okR loX hiX xi ∧ (True) ∧ True) (fun xi t => va_P (dC, dI) vwCl (wR 157 ad (EX cs ad) xi) t.heap) (va_A (wR 157 ad (EX cs ad) mu) s.heap.size)) ([.ref (ad 20), .ref (ad 5)] : List Value).toArray s 0 0 (va_A (wR 157 ad (EX cs ad) mu) s.heap.size)) (F0 m 17 ls []) := by
    intro n17
    induction n17 with
    | zero => intro v2_17 nu17_ H locs ls hm; exact absurd hm (Nat.not_lt_zero _)
    | succ n17 ih17 =>
      intro v2_17 nu17_ H locs ls hm h_v2_17 ok hP hS hl
      refine lv_iload_n hx hb dX8_beLike_17 rfl (lv_at hl 0 rfl) ?_
      refine lv_iconst (v := 4) hx hb dX8_beLike_18 (by decide) ?_
      refine lv_icmp_ge (tgt := 43) hx hb dX8_beLike_19 (by decide) (fun c_2 => ?_) (fun c_2 => ?_)
      · have c_2 : 4 ≤ v2_17.toInt := il_le c_2
        refine lv_aload_n hx hb dX8_beLike_43 rfl (lv_at hl 1 rfl) ?_
        refine lv_aload_n hx hb dX8_beLike_44 rfl (lv_at hl 2 rfl) ?_
        refine va_get (D := (dC, dI)) (ci := 8) (v := .int (nu17_ 5 2)) (C := RX8) (T := TX8) (N := 6) hx hb hts inG8 hown hK hP 5 (gX_5 cs ad nu17_) rfl 2 (by decide) (hts _ (List.mem_cons_of_mem _ mw_1_113)) (fun _ h9 => h9) rfl dX8_beLike_45 ?_
        refine lv_topi (fun y3 ey3 => ?_)
        have by3 : y3.toInt = (nu17_ 5 2).toInt := congrArg Int32.toInt ey3
        refine va_put (D := (dC, dI)) (ci := 8) (v := .int y3) (ty := .int) (C := RX8) (T := TX8) (N := 6) hx hb hts inG8 tyX8 tyX8_ok nmX8 hown hK hP (wR_D nu17_ hD) hS 20 (gX_20 cs ad nu17_) rfl 2 (by decide) (hts _ (List.mem_cons_of_mem _ mw_1_113)) (fun _ h9 => h9) rfl (by decide +kernel) rfl rfl (Nat.le_of_ble_eq_true rfl) dX8_beLike_48 (fun H locs hP _ hS => ?_)
        simp only [List.set_cons_succ, List.set_cons_zero] at hP
        refine wr_gen (upd (nu17_ 20) 2 y3) hP ((hX_20_2 cs ad _ _)) (fun nu4 hn4 hP => ?_)
        have ok := tX_20_2 ok hn4
        have ez5 : y3 = nu4 5 2 := ey3.trans (congrFun (up_k hn4 (by decide)) 2).symm
        have ez6 : y3 = nu4 20 2 := up_v hn4
        refine lv_aload_n hx hb dX8_beLike_51 rfl (lv_at hl 1 rfl) ?_
        refine lv_aload_n hx hb dX8_beLike_52 rfl (lv_at hl 2 rfl) ?_
        refine va_get (D := (dC, dI)) (ci := 8) (v := .int (nu4 5 3)) (C := RX8) (T := TX8) (N := 6) hx hb hts inG8 hown hK hP 5 (gX_5 cs ad nu4) rfl 3 (by decide) (hts _ (List.mem_cons_of_mem _ mw_1_120)) (fun _ h9 => h9) rfl dX8_beLike_53 ?_
        refine lv_topi (fun y7 ey7 => ?_)
        have by7 : y7.toInt = (nu4 5 3).toInt := congrArg Int32.toInt ey7
        refine va_put (D := (dC, dI)) (ci := 8) (v := .int y7) (ty := .int) (C := RX8) (T := TX8) (N := 6) hx hb hts inG8 tyX8 tyX8_ok nmX8 hown hK hP (wR_D nu4 hD) hS 20 (gX_20 cs ad nu4) rfl 3 (by decide) (hts _ (List.mem_cons_of_mem _ mw_1_120)) (fun _ h9 => h9) rfl (by decide +kernel) rfl rfl (Nat.le_of_ble_eq_true rfl) dX8_beLike_56 (fun H locs hP _ hS => ?_)
        simp only [List.set_cons_succ, List.set_cons_zero] at hP
        refine wr_gen (upd (nu4 20) 3 y7) hP ((hX_20_3 cs ad _ _)) (fun nu8 hn8 hP => ?_)
        have ok := tX_20_3 ok hn8
        have ez9 : y3 = nu8 5 2 := ez5.trans (congrFun (up_k hn8 (by decide)) 2).symm
        have ez10 : y3 = nu8 20 2 := ez6.trans (up_f hn8 (by decide)).symm
        have ez11 : y7 = nu8 5 3 := ey7.trans (congrFun (up_k hn8 (by decide)) 3).symm
        have ez12 : y7 = nu8 20 3 := up_v hn8
        refine lv_aload_n hx hb dX8_beLike_59 rfl (lv_at hl 1 rfl) ?_
        refine lv_aload_n hx hb dX8_beLike_60 rfl (lv_at hl 2 rfl) ?_
        refine va_get (D := (dC, dI)) (ci := 8) (v := .int (nu8 5 4)) (C := RX8) (T := TX8) (N := 6) hx hb hts inG8 hown hK hP 5 (gX_5 cs ad nu8) rfl 4 (by decide) (hts _ (List.mem_cons_of_mem _ mw_1_125)) (fun _ h9 => h9) rfl dX8_beLike_61 ?_
        refine lv_topi (fun y13 ey13 => ?_)
        have by13 : y13.toInt = (nu8 5 4).toInt := congrArg Int32.toInt ey13
        have gy13 : 0 ≤ y13.toInt ∧ y13.toInt ≤ 4 := by rw [ey13]; exact rX_5_4 ok
        refine va_put (D := (dC, dI)) (ci := 8) (v := .int y13) (ty := .int) (C := RX8) (T := TX8) (N := 6) hx hb hts inG8 tyX8 tyX8_ok nmX8 hown hK hP (wR_D nu8 hD) hS 20 (gX_20 cs ad nu8) rfl 4 (by decide) (hts _ (List.mem_cons_of_mem _ mw_1_125)) (fun _ h9 => h9) rfl (by decide +kernel) rfl rfl (Nat.le_of_ble_eq_true rfl) dX8_beLike_64 (fun H locs hP _ hS => ?_)
        simp only [List.set_cons_succ, List.set_cons_zero] at hP
        refine wr_gen (upd (nu8 20) 4 y13) hP ((hX_20_4 cs ad _ _)) (fun nu14 hn14 hP => ?_)
        have ok := tX_20_4 ok hn14 (by exact ⟨by omega, by omega⟩)
        have ez15 : y3 = nu14 5 2 := ez9.trans (congrFun (up_k hn14 (by decide)) 2).symm
        have ez16 : y3 = nu14 20 2 := ez10.trans (up_f hn14 (by decide)).symm
        have ez17 : y7 = nu14 5 3 := ez11.trans (congrFun (up_k hn14 (by decide)) 3).symm
        have ez18 : y7 = nu14 20 3 := ez12.trans (up_f hn14 (by decide)).symm
        have ez19 : y13 = nu14 5 4 := ey13.trans (congrFun (up_k hn14 (by decide)) 4).symm
        have ez20 : y13 = nu14 20 4 := up_v hn14
        exact W.vret hx hb hr (fun t ht hW => ⟨⟨nu14, rfl, ⟨ok, trivial, trivial⟩, by first | (subst ht; exact hP) | (rw [ht]; exact hP) | (show va_P (dC, dI) vwCl (wR 157 ad (EX cs ad) nu14) t.heap; rw [ht]; exact hP)⟩, hS.F ht⟩) hS.2.2 dX8_beLike_67
      · have c_2 : v2_17.toInt < 4 := il_nle c_2
        refine lv_aload_n hx hb dX8_beLike_22 rfl (lv_at hl 1 rfl) ?_
        refine va_get (D := (dC, dI)) (ci := 8) (v := .ref (ad 45)) (C := RX8) (T := TX8) (N := 6) hx hb hts inG8 hown hK hP 20 (gX_20 cs ad nu17_) rfl 1 (by decide) (hts _ (List.mem_cons_of_mem _ mw_1_109)) (fun _ h9 => h9) rfl dX8_beLike_23 ?_
        refine lv_iload_n hx hb dX8_beLike_26 rfl (lv_at hl 0 rfl) ?_
        have hx21 : 0 ≤ v2_17.toInt ∧ v2_17.toInt < ((4 : Nat) : Int) := ⟨by omega, by omega⟩
        refine va_aldq hx hb hK hP 45 5 (gX_45 cs ad nu17_) rfl (show vp_in v2_17 4 from vi_of hx21.1 hx21.2) dX8_beLike_27 ?_
        have hk21 : 73 ≤ (73 + v2_17.toNatClampNeg) ∧ (73 + v2_17.toNatClampNeg) < 77 := ix_of hx21
        have hk21 : 61 ≤ (73 + v2_17.toNatClampNeg) ∧ (73 + v2_17.toNatClampNeg) < 77 := ⟨Nat.le_trans (by decide) hk21.1, Nat.lt_of_lt_of_le hk21.2 (by decide)⟩
        refine lq_v (.ref (ad (73 + v2_17.toNatClampNeg))) rfl ?_
        refine lv_aload_n hx hb dX8_beLike_28 rfl (lv_at hl 2 rfl) ?_
        refine va_get (D := (dC, dI)) (ci := 8) (v := .ref (ad 47)) (C := RX8) (T := TX8) (N := 6) hx hb hts inG8 hown hK hP 5 (gX_5 cs ad nu17_) rfl 1 (by decide) (hts _ (List.mem_cons_of_mem _ mw_1_109)) (fun _ h9 => h9) rfl dX8_beLike_29 ?_
        refine lv_iload_n hx hb dX8_beLike_32 rfl (lv_at hl 0 rfl) ?_
        have hx22 : 0 ≤ v2_17.toInt ∧ v2_17.toInt < ((4 : Nat) : Int) := ⟨by omega, by omega⟩
        refine va_aldq hx hb hK hP 47 5 (gX_47 cs ad nu17_) rfl (show vp_in v2_17 4 from vi_of hx22.1 hx22.2) dX8_beLike_33 ?_
        have hk22 : 61 ≤ (61 + v2_17.toNatClampNeg) ∧ (61 + v2_17.toNatClampNeg) < 65 := ix_of hx22
        have hk22 : 61 ≤ (61 + v2_17.toNatClampNeg) ∧ (61 + v2_17.toNatClampNeg) < 77 := ⟨Nat.le_trans (by decide) hk22.1, Nat.lt_of_lt_of_le hk22.2 (by decide)⟩
        refine lq_v (.ref (ad (61 + v2_17.toNatClampNeg))) rfl ?_
        have hFc := fr_all (wR_D nu17_ hD) hS hA
        refine va_callv (va_runV (As := [.ref (ad (61 + v2_17.toNatClampNeg))]) (rest := []) ⟨hx, hb, hml, hown, hts⟩ (sx_Letter_beLike l dC dI cs ad nu17_ ok H hP ((wR_D nu17_ hD).weaken (fun _ _ _ _ => trivial)) (73 + v2_17.toNatClampNeg) hk21.1 hk21.2 (61 + v2_17.toNatClampNeg) hk22.1 hk22.2) (cwV 1 hts (wU_V mw_3_229 mw_3_226 mw_3_227 mw_3_228 mw_1_4) rfl rfl rfl (by decide +kernel) ⟨Nat.le_of_ble_eq_true rfl, Nat.le_of_ble_eq_true rfl⟩) ⟨sz_c, va_recv hK hP (ci := 3) (q0 := (73 + v2_17.toNatClampNeg)) rfl (gX_letter cs ad nu17_ (73 + v2_17.toNatClampNeg) hk21.1 hk21.2), sz_m hK hz⟩ rfl rfl hl.1 rfl (lv_room (Nat.le_of_ble_eq_true rfl)) dX8_beLike_34 ⟨Nat.zero_le _, Nat.zero_le _⟩) hS (fun q _ h => hFc q h) hFc (fun xi23 t H23 locs ht hvm hw23 hB hz1 hk1 hS => ?_)
        have hP : va_P (dC, dI) vwCl (wR 157 ad (EX cs ad) xi23) H23 := by rw [← ht]; exact hB
        obtain ⟨ok, hw23, _⟩ := hw23
        refine lv_iinc (v := (v2_17 + 1)) (lv' := [(2, .int (v2_17 + 1)), (0, .ref (ad 20)), (1, .ref (ad 5))]) hx hb dX8_beLike_37 hl (k := 0) rfl rfl (by decide) rfl (fun ls hl => ?_)
        refine loc_gen (P := fun w9 => lv_has ls 3 [(2, .int w9), (0, .ref (ad 20)), (1, .ref (ad 5))]) (v2_17 + 1) hl (fun w24 hw24 hl => ?_)
        have hl : lv_has ls 3 [(2, .int w24), (0, .ref (ad 20)), (1, .ref (ad 5))] := hl
        have aw24 : w24.toInt = v2_17.toInt + 1 := by rw [← hw24]; exact tI_add (rfl : v2_17.toInt = _) (rfl : (1 : Int32).toInt = 1) (by omega) (by omega)
        refine lv_goto (tgt := 17) hx hb dX8_beLike_40 (by decide) ?_
        exact ih17 (w24) xi23 _ _ _ (by omega) (by exact ⟨by omega, by omega⟩)  ok hP   hS (lv_sub hl [0, 1, 2] rfl)
  exact loop17 ((4 + 1 - (0 : Int32).toInt).toNat + 1) (0) nu1 _ _ _ (Nat.lt_succ_self _) (by have h80 : (0 : Int32).toInt = 0 := rfl; exact ⟨by omega, by omega⟩)  ok hP   hS hl
