set_option maxHeartbeats 4000000 in
set_option maxRecDepth 100000 in
/-- sx_worthTo -/
theorem sx_worthTo (l : Launch) (dC : Nat → ClassId) (dI : Nat → Nat → Nat) (cs : Nat → ClassId) (ad : Nat → Nat) (mu : Nat → Nat → Int32) (ok : okR loX hiX mu) (H : Heap) (hP : va_P (dC, dI) vwCl (wR 157 ad (EX cs ad) mu) H) (hD0 : va_D (fun _ => True) (wR 157 ad (EX cs ad) mu)) (kl : Nat) (h1kl : 61 ≤ kl) (h2kl : kl < 77) (vx : Int32) (vd : Int32) (hin0 : 0 ≤ vx.toInt ∧ vx.toInt ≤ 6) (hin1 : 0 ≤ vd.toInt ∧ vd.toInt ≤ 20) : Met l yX10_worthTo (wU yX10_worthTo cX10_worthTo 6 (some .int)) ({ frames := 3, cells := 0, slots := 0, locals := 70 }) (va_Pc [.ref (ad 4), .ref (ad kl), .int vx, .int vd] (sz_P (dC, dI) vwCl (tyW cs) H)) (va_Qi (fun (z : Int32) (xi : Nat → Nat → Int32) => okR loX hiX xi ∧ (True) ∧ (∀ k f : Nat, Nat.testBit 510 (gpX k f) = true → xi k f = mu k f)) (fun xi t => va_P (dC, dI) vwCl (wR 157 ad (EX cs ad) xi) t.heap) (va_A (wR 157 ad (EX cs ad) mu) H.size)) 0 0 (va_A (wR 157 ad (EX cs ad) mu) H.size) := by
  refine Met.ofW (cc := cX10_worthTo) (maxL := 6) (ret := (some .int)) (by decide) rfl ?_
  intro p e s m args below meth c s₁ B hml hv
  obtain ⟨rfl, hh, hK, hz⟩ := hv
  have hx := B.exec
  have hb := B.bytes
  have hr := B.returns
  have hts := atoms_spec (ws := (wU yX10_worthTo cX10_worthTo 6 (some .int))) B.pre
  have hown : s.vm.findClass RX10 = some m.cls := findClass_of_methodNamed B.named
  have hlocks := B.notSynchronized
  subst hh
  have hD := hD0.self (sz := s.heap.size)
  have hA : ∀ q : Nat, s.heap.size ≤ q → (va_A (wR 157 ad (EX cs ad) mu) s.heap.size) q := fun q h => Or.inr h
  have hS : va_S (va_A (wR 157 ad (EX cs ad) mu) s.heap.size) s.heap s.heap [] := va_S.rf
  have hl := lv_entry ([.ref (ad 4), .ref (ad kl), .int vx, .int vd]) (n := 6) (Nat.le_of_ble_eq_true rfl)
  rw [lg_entry_eq]
  generalize (lg_sl ([.ref (ad 4), .ref (ad kl), .int vx, .int vd]) ++ List.replicate (6 - (lg_sl ([.ref (ad 4), .ref (ad kl), .int vx, .int vd])).length) Slot.unset).toArray = ls at hl ⊢
  have hl : lv_has ls 6 [(0, .ref (ad 4)), (1, .ref (ad kl)), (2, .int vx), (3, .int vd)] := hl
  refine lv_aload_n hx hb dX10_worthTo_0 rfl (lv_at hl 0 rfl) ?_
  refine va_get (D := (dC, dI)) (ci := 10) (v := .ref (ad 37)) (C := RX10) (T := TX10) (N := 8) hx hb hts inG10 hown hK hP 4 (gX_4 cs ad mu) rfl 4 (by decide) (hts _ (List.mem_cons_of_mem _ mw_1_158)) (fun _ h9 => h9) rfl dX10_worthTo_1 ?_
  refine lv_iconst (v := 0) hx hb dX10_worthTo_4 (by decide) ?_
  have hFc := fr_all (wR_D mu hD) hS hA
  refine va_callv (va_runS (As := [.ref (ad 37), .int 0]) (rest := []) ⟨hx, hb, hml, hown, hts⟩ (sj_fillI_37 l dC dI cs ad mu ok s.heap hP ((wR_D mu hD).weaken (fun _ _ _ _ => trivial)) 0) (va_cwS 2 hts (wU_S mw_2_209 mw_4_115 mw_2_208 mw_1_14) rfl rfl rfl (by decide +kernel) ⟨Nat.le_of_ble_eq_true rfl, Nat.le_of_ble_eq_true rfl⟩) ⟨sz_c, sz_m hK hz⟩ rfl rfl hl.1 rfl (lv_room (Nat.le_of_ble_eq_true rfl)) dX10_worthTo_5 ⟨Nat.zero_le _, Nat.zero_le _⟩) hS (fun q _ h => hFc q h) hFc (fun xi1 t H1 locs ht hvm hw1 hB hz1 hk1 hS => ?_)
  have hP : va_P (dC, dI) vwCl (wR 157 ad (EX cs ad) xi1) H1 := by rw [← ht]; exact hB
  obtain ⟨ok, hw1, hkp1_0⟩ := hw1
  have kp2 : (∀ k f : Nat, Nat.testBit 510 (gpX k f) = true → xi1 k f = mu k f) := kp_t hkp1_0 (by decide) (fun _ _ _ => rfl)
  refine lv_aload_n hx hb dX10_worthTo_8 rfl (lv_at hl 0 rfl) ?_
  refine va_get (D := (dC, dI)) (ci := 10) (v := .ref (ad 37)) (C := RX10) (T := TX10) (N := 8) hx hb hts inG10 hown hK hP 4 (gX_4 cs ad xi1) rfl 4 (by decide) (hts _ (List.mem_cons_of_mem _ mw_1_158)) (fun _ h9 => h9) rfl dX10_worthTo_9 ?_
  refine lv_aload_n hx hb dX10_worthTo_12 rfl (lv_at hl 1 rfl) ?_
  refine va_get (D := (dC, dI)) (ci := 3) (v := .int (xi1 kl 1)) (C := RX3) (T := TX3) (N := 10) hx hb hts inG3 hown hK hP kl (gX_letter cs ad xi1 kl h1kl h2kl) rfl 1 (by decide) (hts _ (List.mem_cons_of_mem _ mw_1_55)) (fun _ h9 => h9) rfl dX10_worthTo_13 ?_
  refine lv_topi (fun y3 ey3 => ?_)
  have by3 : y3.toInt = (xi1 kl 1).toInt := congrArg Int32.toInt ey3
  have gy3 : 0 ≤ y3.toInt ∧ y3.toInt ≤ 6 := by rw [ey3]; exact rX_letter_1 ok kl h1kl h2kl
  refine lv_aload_n hx hb dX10_worthTo_16 rfl (lv_at hl 1 rfl) ?_
  refine lv_aload_n hx hb dX10_worthTo_17 rfl (lv_at hl 0 rfl) ?_
  refine va_get (D := (dC, dI)) (ci := 10) (v := .ref (ad 5)) (C := RX10) (T := TX10) (N := 8) hx hb hts inG10 hown hK hP 4 (gX_4 cs ad xi1) rfl 3 (by decide) (hts _ (List.mem_cons_of_mem _ mw_1_152)) (fun _ h9 => h9) rfl dX10_worthTo_18 ?_
  refine va_get (D := (dC, dI)) (ci := 8) (v := .int (xi1 5 3)) (C := RX8) (T := TX8) (N := 6) hx hb hts inG8 hown hK hP 5 (gX_5 cs ad xi1) rfl 3 (by decide) (hts _ (List.mem_cons_of_mem _ mw_1_123)) (fun _ h9 => h9) rfl dX10_worthTo_21 ?_
  refine lv_topi (fun y4 ey4 => ?_)
  have by4 : y4.toInt = (xi1 5 3).toInt := congrArg Int32.toInt ey4
  refine lv_bipush (v := 20) hx hb dX10_worthTo_24 (by decide) ?_
  refine lv_iadd hx hb dX10_worthTo_26 ?_
  refine lv_topi (fun t5 et5 => ?_)
  refine cr_i (va_runV (As := [.int t5]) (rest := [.int y3, .ref (ad 37)]) ⟨hx, hb, hml, hown, hts⟩ (sx_worthOn l dC dI cs ad xi1 ok H1 hP kl h1kl h2kl t5) (cwV 1 hts (wU_V mw_3_170 mw_3_167 mw_3_168 mw_3_169 mw_1_4) rfl rfl rfl (by decide +kernel) ⟨Nat.le_of_ble_eq_true rfl, Nat.le_of_ble_eq_true rfl⟩) ⟨sz_c, va_recv hK hP (ci := 3) (q0 := kl) rfl (gX_letter cs ad xi1 kl h1kl h2kl), sz_m hK hz⟩ rfl rfl hl.1 rfl (lv_room (Nat.le_of_ble_eq_true rfl)) dX10_worthTo_27 ⟨Nat.zero_le _, Nat.zero_le _⟩) hS (fun r6 hw6 locs hS => ?_)
  obtain ⟨hfe6, hw6⟩ := hw6
  refine va_iast hx hb hK hP (wR_D xi1 hD) hS 37 0 (gX_37 cs ad xi1) rfl (show vp_in y3 7 from vi_of (by omega) (by omega)) dX10_worthTo_30 (fun H locs hP _ hS => ?_)
  refine wr_gen (upd (xi1 37) y3.toNatClampNeg r6) hP (rfl) (fun nu7 hn7 hP => ?_)
  have ok := tX_37_s ok y3.toNatClampNeg hn7
  have ez8 : y3 = nu7 kl 1 := ey3.trans (congrFun (up_k hn7 (ne_lo (by decide) h1kl).symm) 1).symm
  have ez9 : y4 = nu7 5 3 := ey4.trans (congrFun (up_k hn7 (by decide)) 3).symm
  have kp10 : (∀ k f : Nat, Nat.testBit 510 (gpX k f) = true → nu7 k f = mu k f) := kp_c 0 hn7 (fun _ => rfl) (by decide) kp2
  refine lv_bipush (v := 19) hx hb dX10_worthTo_31 (by decide) ?_
  refine lv_istore (lv' := [(4, .int 19), (0, .ref (ad 4)), (1, .ref (ad kl)), (2, .int vx), (3, .int vd)]) hx hb dX10_worthTo_33 hl (by decide) rfl (fun ls hl => ?_)
  have loop35 : ∀ (n35 : Nat) (v4_35 : Int32) (nu35_ : Nat → Nat → Int32) (H : Heap) (locs : List Loc) (ls : Array Slot), (v4_35.toInt + 1 - -1).toNat < n35 → (-1 ≤ v4_35.toInt ∧ v4_35.toInt ≤ 19) → okR loX hiX nu35_ → va_P (dC, dI) vwCl (wR 157 ad (EX cs ad) nu35_) H → (∀ k f : Nat, Nat.testBit 510 (gpX k f) = true → nu35_ k f = mu k f) → va_S (va_A (wR 157 ad (EX cs ad) mu) s.heap.size) s.heap H locs → lv_has ls 6 [(4, .int v4_35), (0, .ref (ad 4)), (1, .ref (ad kl)), (2, .int vx), (3, .int vd)] → W p l e (headSpec (wU yX10_worthTo cX10_worthTo 6 (some .int)) ({ frames := 3, cells := 0, slots := 0, locals := 70 })).room s m ([.ref (ad 4), .ref (ad kl), .int vx, .int vd] : List Value).toArray below meth c H locs 0 0 (MQ below (va_Qi (fun (z : Int32) (xi : Nat → Nat → Int32) => okR loX hiX xi ∧ (True) ∧ (∀ k f : Nat, Nat.testBit 510 (gpX k f) = true → xi k f = mu k f)) (fun xi t => va_P (dC, dI) vwCl (wR 157 ad (EX cs ad) xi) t.heap) (va_A (wR 157 ad (EX cs ad) mu) s.heap.size)) ([.ref (ad 4), .ref (ad kl), .int vx, .int vd] : List Value).toArray s 0 0 (va_A (wR 157 ad (EX cs ad) mu) s.heap.size)) (F0 m 35 ls []) := by
    intro n35
    induction n35 with
    | zero => intro v4_35 nu35_ H locs ls hm; exact absurd hm (Nat.not_lt_zero _)
    | succ n35 ih35 =>
      intro v4_35 nu35_ H locs ls hm h_v4_35 ok hP kq35_0 hS hl
      refine lv_iload hx hb dX10_worthTo_35 (lv_at hl 0 rfl) ?_
      refine lv_iload_n hx hb dX10_worthTo_37 rfl (lv_at hl 4 rfl) ?_
      refine lv_icmp_lt (tgt := 120) hx hb dX10_worthTo_38 (by decide) (fun c_11 => ?_) (fun c_11 => ?_)
      · have c_11 : v4_35.toInt < vd.toInt := il_lt c_11
        refine lv_aload_n hx hb dX10_worthTo_120 rfl (lv_at hl 1 rfl) ?_
        refine va_get (D := (dC, dI)) (ci := 10) (v := .ref (ad 37)) (C := RX10) (T := TX10) (N := 8) hx hb hts inG10 hown hK hP 4 (gX_4 cs ad nu35_) rfl 4 (by decide) (hts _ (List.mem_cons_of_mem _ mw_1_158)) (fun _ h9 => h9) rfl dX10_worthTo_121 ?_
        refine lv_iload_n hx hb dX10_worthTo_124 rfl (lv_at hl 3 rfl) ?_
        refine va_iald hx hb hK hP 37 0 (gX_37 cs ad nu35_) rfl (show vp_in vx 7 from vi_of (by omega) (by omega)) dX10_worthTo_125 ?_
        refine lv_topi (fun y12 ey12 => ?_)
        have by12 : y12.toInt = (nu35_ 37 vx.toNatClampNeg).toInt := congrArg Int32.toInt ey12
        exact W.iret (v := y12) hx hb hr (fun t ht hW => ⟨⟨y12, nu35_, rfl, ⟨ok, trivial, kq35_0⟩, by first | (subst ht; exact hP) | (rw [ht]; exact hP) | (show va_P (dC, dI) vwCl (wR 157 ad (EX cs ad) nu35_) t.heap; rw [ht]; exact hP)⟩, hS.F ht⟩) hS.2.2 dX10_worthTo_126
      · have c_11 : vd.toInt ≤ v4_35.toInt := il_nlt c_11
        refine lv_aload_n hx hb dX10_worthTo_41 rfl (lv_at hl 1 rfl) ?_
        refine va_get (D := (dC, dI)) (ci := 10) (v := .ref (ad 37)) (C := RX10) (T := TX10) (N := 8) hx hb hts inG10 hown hK hP 4 (gX_4 cs ad nu35_) rfl 4 (by decide) (hts _ (List.mem_cons_of_mem _ mw_1_158)) (fun _ h9 => h9) rfl dX10_worthTo_42 ?_
        refine lv_iconst (v := 0) hx hb dX10_worthTo_45 (by decide) ?_
        refine lv_aload_n hx hb dX10_worthTo_46 rfl (lv_at hl 1 rfl) ?_
        refine va_get (D := (dC, dI)) (ci := 10) (v := .ref (ad 38)) (C := RX10) (T := TX10) (N := 8) hx hb hts inG10 hown hK hP 4 (gX_4 cs ad nu35_) rfl 5 (by decide) (hts _ (List.mem_cons_of_mem _ mw_1_159)) (fun _ h9 => h9) rfl dX10_worthTo_47 ?_
        refine lv_iconst (v := 0) hx hb dX10_worthTo_50 (by decide) ?_
        refine lv_bipush (v := 7) hx hb dX10_worthTo_51 (by decide) ?_
        refine va_copyi hx hb (hml.trans hl.1.symm) hown (hts _ (List.mem_cons_of_mem _ mw_4_116)) (hts _ (List.mem_cons_of_mem _ mw_3_4)) (hts _ (List.mem_cons_of_mem _ mw_3_3)) (hts _ (List.mem_cons_of_mem _ mw_1_15)) hK hP (wR_D nu35_ hD) hS 37 38 0 0 (gX_37 cs ad nu35_) (gX_38 cs ad nu35_) rfl rfl rfl (by decide) (by decide) (by decide) (by have ua : ((0 : Int32).toNatClampNeg : Int) = 0 := rfl; have ub : ((0 : Int32).toNatClampNeg : Int) = 0 := rfl; have uc : ((7 : Int32).toNatClampNeg : Int) = 7 := rfl; omega) (by have ua : ((0 : Int32).toNatClampNeg : Int) = 0 := rfl; have ub : ((0 : Int32).toNatClampNeg : Int) = 0 := rfl; have uc : ((7 : Int32).toNatClampNeg : Int) = 7 := rfl; omega) (fun _ _ => rfl) (Nat.le_of_ble_eq_true rfl) (Nat.le_of_ble_eq_true rfl) dX10_worthTo_53 (fun H locs hP _ hS => ?_)
        refine wr_gen (va_cpy (nu35_ 37) (nu35_ 38) (0 : Int32).toNatClampNeg (0 : Int32).toNatClampNeg (7 : Int32).toNatClampNeg) hP (rfl) (fun nu13 hn13 hP => ?_)
        have ok := okR_cp ok hn13 (cX_37_38  )
        have kp14 : (∀ k f : Nat, Nat.testBit 510 (gpX k f) = true → nu13 k f = mu k f) := kp_c 0 hn13 (fun _ => rfl) (by decide) kq35_0
        refine lv_iconst (v := 0) hx hb dX10_worthTo_56 (by decide) ?_
        refine lv_istore (lv' := [(5, .int 0), (4, .int v4_35), (0, .ref (ad 4)), (1, .ref (ad kl)), (2, .int vx), (3, .int vd)]) hx hb dX10_worthTo_57 hl (by decide) rfl (fun ls hl => ?_)
        have loop59 : ∀ (n59 : Nat) (v5_59 : Int32) (nu59_ : Nat → Nat → Int32) (H : Heap) (locs : List Loc) (ls : Array Slot), (7 + 1 - v5_59.toInt).toNat < n59 → (0 ≤ v5_59.toInt ∧ v5_59.toInt ≤ 7) → okR loX hiX nu59_ → va_P (dC, dI) vwCl (wR 157 ad (EX cs ad) nu59_) H → (∀ k f : Nat, Nat.testBit 510 (gpX k f) = true → nu59_ k f = mu k f) → va_S (va_A (wR 157 ad (EX cs ad) mu) s.heap.size) s.heap H locs → lv_has ls 6 [(5, .int v5_59), (4, .int v4_35), (0, .ref (ad 4)), (1, .ref (ad kl)), (2, .int vx), (3, .int vd)] → W p l e (headSpec (wU yX10_worthTo cX10_worthTo 6 (some .int)) ({ frames := 3, cells := 0, slots := 0, locals := 70 })).room s m ([.ref (ad 4), .ref (ad kl), .int vx, .int vd] : List Value).toArray below meth c H locs 0 0 (MQ below (va_Qi (fun (z : Int32) (xi : Nat → Nat → Int32) => okR loX hiX xi ∧ (True) ∧ (∀ k f : Nat, Nat.testBit 510 (gpX k f) = true → xi k f = mu k f)) (fun xi t => va_P (dC, dI) vwCl (wR 157 ad (EX cs ad) xi) t.heap) (va_A (wR 157 ad (EX cs ad) mu) s.heap.size)) ([.ref (ad 4), .ref (ad kl), .int vx, .int vd] : List Value).toArray s 0 0 (va_A (wR 157 ad (EX cs ad) mu) s.heap.size)) (F0 m 59 ls []) := by
          intro n59
          induction n59 with
          | zero => intro v5_59 nu59_ H locs ls hm; exact absurd hm (Nat.not_lt_zero _)
          | succ n59 ih59 =>
            intro v5_59 nu59_ H locs ls hm h_v5_59 ok hP kq59_0 hS hl
            refine lv_iload hx hb dX10_worthTo_59 (lv_at hl 0 rfl) ?_
            refine lv_aload_n hx hb dX10_worthTo_61 rfl (lv_at hl 2 rfl) ?_
            refine va_get (D := (dC, dI)) (ci := 10) (v := .int (nu59_ 4 6)) (C := RX10) (T := TX10) (N := 8) hx hb hts inG10 hown hK hP 4 (gX_4 cs ad nu59_) rfl 6 (by decide) (hts _ (List.mem_cons_of_mem _ mw_1_160)) (fun _ h9 => h9) rfl dX10_worthTo_62 ?_
            refine lv_topi (fun y15 ey15 => ?_)
            have by15 : y15.toInt = (nu59_ 4 6).toInt := congrArg Int32.toInt ey15
            have gy15 : 0 ≤ y15.toInt ∧ y15.toInt ≤ 7 := by rw [ey15]; exact rX_4_6 ok
            refine lv_icmp_ge (tgt := 114) hx hb dX10_worthTo_65 (by decide) (fun c_16 => ?_) (fun c_16 => ?_)
            · have c_16 : y15.toInt ≤ v5_59.toInt := il_le c_16
              refine lv_iinc (v := (v4_35 + (-1))) (lv' := [(4, .int (v4_35 + (-1))), (5, .int v5_59), (0, .ref (ad 4)), (1, .ref (ad kl)), (2, .int vx), (3, .int vd)]) hx hb dX10_worthTo_114 hl (k := 1) rfl rfl (by decide) rfl (fun ls hl => ?_)
              refine loc_gen (P := fun w9 => lv_has ls 6 [(4, .int w9), (5, .int v5_59), (0, .ref (ad 4)), (1, .ref (ad kl)), (2, .int vx), (3, .int vd)]) (v4_35 + (-1)) hl (fun w17 hw17 hl => ?_)
              have hl : lv_has ls 6 [(4, .int w17), (5, .int v5_59), (0, .ref (ad 4)), (1, .ref (ad kl)), (2, .int vx), (3, .int vd)] := hl
              have aw17 : w17.toInt = v4_35.toInt + (-1) := by rw [← hw17]; exact tI_add (rfl : v4_35.toInt = _) (rfl : ((-1) : Int32).toInt = -1) (by omega) (by omega)
              refine lv_goto (tgt := 35) hx hb dX10_worthTo_117 (by decide) ?_
              exact ih35 (w17) nu59_ _ _ _ (by omega) (by omega)  ok hP  kq59_0 hS (lv_sub hl [0, 2, 3, 4, 5] rfl)
            · have c_16 : v5_59.toInt < y15.toInt := il_nle c_16
              refine lv_aload_n hx hb dX10_worthTo_68 rfl (lv_at hl 2 rfl) ?_
              refine va_get (D := (dC, dI)) (ci := 10) (v := .ref (ad 37)) (C := RX10) (T := TX10) (N := 8) hx hb hts inG10 hown hK hP 4 (gX_4 cs ad nu59_) rfl 4 (by decide) (hts _ (List.mem_cons_of_mem _ mw_1_158)) (fun _ h9 => h9) rfl dX10_worthTo_69 ?_
              refine lv_iload hx hb dX10_worthTo_72 (lv_at hl 0 rfl) ?_
              refine lv_iload hx hb dX10_worthTo_74 (lv_at hl 0 rfl) ?_
              refine lv_aload_n hx hb dX10_worthTo_76 rfl (lv_at hl 3 rfl) ?_
              refine va_get (D := (dC, dI)) (ci := 3) (v := .int (nu59_ kl 1)) (C := RX3) (T := TX3) (N := 10) hx hb hts inG3 hown hK hP kl (gX_letter cs ad nu59_ kl h1kl h2kl) rfl 1 (by decide) (hts _ (List.mem_cons_of_mem _ mw_1_55)) (fun _ h9 => h9) rfl dX10_worthTo_77 ?_
              refine lv_topi (fun y18 ey18 => ?_)
              have by18 : y18.toInt = (nu59_ kl 1).toInt := congrArg Int32.toInt ey18
              have gy18 : 0 ≤ y18.toInt ∧ y18.toInt ≤ 6 := by rw [ey18]; exact rX_letter_1 ok kl h1kl h2kl
              refine lv_icmp_ne (tgt := 100) hx hb dX10_worthTo_80 (by decide) (fun c_19 => ?_) (fun c_19 => ?_)
              · have c_19 : ¬ v5_59.toInt = y18.toInt := il_ne c_19
                refine lv_aload_n hx hb dX10_worthTo_100 rfl (lv_at hl 2 rfl) ?_
                refine lv_aload_n hx hb dX10_worthTo_101 rfl (lv_at hl 3 rfl) ?_
                refine lv_iload hx hb dX10_worthTo_102 (lv_at hl 0 rfl) ?_
                refine cr_i (va_runV (As := [.ref (ad kl), .int v5_59]) (rest := [.int v5_59, .ref (ad 37)]) ⟨hx, hb, hml, hown, hts⟩ (sx_worthBeside l dC dI cs ad nu59_ ok H hP kl h1kl h2kl v5_59) (cwV 2 hts (wU_V mw_4_120 mw_4_117 mw_4_119 mw_0_19 mw_1_2) rfl rfl rfl (by decide +kernel) ⟨Nat.le_of_ble_eq_true rfl, Nat.le_of_ble_eq_true rfl⟩) ⟨sz_c, va_recv hK hP (ci := 10) (q0 := 4) rfl (gX_4 cs ad nu59_), sz_m hK hz⟩ rfl rfl hl.1 rfl (lv_room (Nat.le_of_ble_eq_true rfl)) dX10_worthTo_104 ⟨Nat.zero_le _, Nat.zero_le _⟩) hS (fun r20 hw20 locs hS => ?_)
                refine va_iast hx hb hK hP (wR_D nu59_ hD) hS 37 0 (gX_37 cs ad nu59_) rfl (show vp_in v5_59 7 from vi_of (by omega) (by omega)) dX10_worthTo_107 (fun H locs hP _ hS => ?_)
                refine wr_gen (upd (nu59_ 37) v5_59.toNatClampNeg r20) hP (rfl) (fun nu21 hn21 hP => ?_)
                have ok := tX_37_s ok v5_59.toNatClampNeg hn21
                have ez22 : y15 = nu21 4 6 := ey15.trans (congrFun (up_k hn21 (by decide)) 6).symm
                have ez23 : y18 = nu21 kl 1 := ey18.trans (congrFun (up_k hn21 (ne_lo (by decide) h1kl).symm) 1).symm
                have kp24 : (∀ k f : Nat, Nat.testBit 510 (gpX k f) = true → nu21 k f = mu k f) := kp_c 0 hn21 (fun _ => rfl) (by decide) kq59_0
                refine lv_iinc (v := (v5_59 + 1)) (lv' := [(5, .int (v5_59 + 1)), (4, .int v4_35), (0, .ref (ad 4)), (1, .ref (ad kl)), (2, .int vx), (3, .int vd)]) hx hb dX10_worthTo_108 hl (k := 0) rfl rfl (by decide) rfl (fun ls hl => ?_)
                refine loc_gen (P := fun w9 => lv_has ls 6 [(5, .int w9), (4, .int v4_35), (0, .ref (ad 4)), (1, .ref (ad kl)), (2, .int vx), (3, .int vd)]) (v5_59 + 1) hl (fun w25 hw25 hl => ?_)
                have hl : lv_has ls 6 [(5, .int w25), (4, .int v4_35), (0, .ref (ad 4)), (1, .ref (ad kl)), (2, .int vx), (3, .int vd)] := hl
                have aw25 : w25.toInt = v5_59.toInt + 1 := by rw [← hw25]; exact va1 (by omega)
                refine lv_goto (tgt := 59) hx hb dX10_worthTo_111 (by decide) ?_
                exact ih59 (w25) nu21 _ _ _ (by omega) (by omega)  ok hP  kp24 hS (lv_sub hl [0, 1, 2, 3, 4, 5] rfl)
              · have c_19 : v5_59.toInt = y18.toInt := il_eq c_19
                refine lv_aload_n hx hb dX10_worthTo_83 rfl (lv_at hl 3 rfl) ?_
                refine lv_aload_n hx hb dX10_worthTo_84 rfl (lv_at hl 2 rfl) ?_
                refine va_get (D := (dC, dI)) (ci := 10) (v := .ref (ad 5)) (C := RX10) (T := TX10) (N := 8) hx hb hts inG10 hown hK hP 4 (gX_4 cs ad nu59_) rfl 3 (by decide) (hts _ (List.mem_cons_of_mem _ mw_1_152)) (fun _ h9 => h9) rfl dX10_worthTo_85 ?_
                refine va_get (D := (dC, dI)) (ci := 8) (v := .int (nu59_ 5 3)) (C := RX8) (T := TX8) (N := 6) hx hb hts inG8 hown hK hP 5 (gX_5 cs ad nu59_) rfl 3 (by decide) (hts _ (List.mem_cons_of_mem _ mw_1_123)) (fun _ h9 => h9) rfl dX10_worthTo_88 ?_
                refine lv_topi (fun y26 ey26 => ?_)
                have by26 : y26.toInt = (nu59_ 5 3).toInt := congrArg Int32.toInt ey26
                refine lv_iload hx hb dX10_worthTo_91 (lv_at hl 1 rfl) ?_
                refine lv_iadd hx hb dX10_worthTo_93 ?_
                refine lv_topi (fun t27 et27 => ?_)
                refine cr_i (va_runV (As := [.int t27]) (rest := [.int v5_59, .ref (ad 37)]) ⟨hx, hb, hml, hown, hts⟩ (sx_worthOn l dC dI cs ad nu59_ ok H hP kl h1kl h2kl t27) (cwV 1 hts (wU_V mw_3_170 mw_3_167 mw_3_168 mw_3_169 mw_1_4) rfl rfl rfl (by decide +kernel) ⟨Nat.le_of_ble_eq_true rfl, Nat.le_of_ble_eq_true rfl⟩) ⟨sz_c, va_recv hK hP (ci := 3) (q0 := kl) rfl (gX_letter cs ad nu59_ kl h1kl h2kl), sz_m hK hz⟩ rfl rfl hl.1 rfl (lv_room (Nat.le_of_ble_eq_true rfl)) dX10_worthTo_94 ⟨Nat.zero_le _, Nat.zero_le _⟩) hS (fun r28 hw28 locs hS => ?_)
                obtain ⟨hfe28, hw28⟩ := hw28
                refine lv_goto (tgt := 107) hx hb dX10_worthTo_97 (by decide) ?_
                refine va_iast hx hb hK hP (wR_D nu59_ hD) hS 37 0 (gX_37 cs ad nu59_) rfl (show vp_in v5_59 7 from vi_of (by omega) (by omega)) dX10_worthTo_107 (fun H locs hP _ hS => ?_)
                refine wr_gen (upd (nu59_ 37) v5_59.toNatClampNeg r28) hP (rfl) (fun nu29 hn29 hP => ?_)
                have ok := tX_37_s ok v5_59.toNatClampNeg hn29
                have ez30 : y15 = nu29 4 6 := ey15.trans (congrFun (up_k hn29 (by decide)) 6).symm
                have ez31 : y18 = nu29 kl 1 := ey18.trans (congrFun (up_k hn29 (ne_lo (by decide) h1kl).symm) 1).symm
                have ez32 : y26 = nu29 5 3 := ey26.trans (congrFun (up_k hn29 (by decide)) 3).symm
                have kp33 : (∀ k f : Nat, Nat.testBit 510 (gpX k f) = true → nu29 k f = mu k f) := kp_c 0 hn29 (fun _ => rfl) (by decide) kq59_0
                refine lv_iinc (v := (v5_59 + 1)) (lv' := [(5, .int (v5_59 + 1)), (4, .int v4_35), (0, .ref (ad 4)), (1, .ref (ad kl)), (2, .int vx), (3, .int vd)]) hx hb dX10_worthTo_108 hl (k := 0) rfl rfl (by decide) rfl (fun ls hl => ?_)
                refine loc_gen (P := fun w9 => lv_has ls 6 [(5, .int w9), (4, .int v4_35), (0, .ref (ad 4)), (1, .ref (ad kl)), (2, .int vx), (3, .int vd)]) (v5_59 + 1) hl (fun w34 hw34 hl => ?_)
                have hl : lv_has ls 6 [(5, .int w34), (4, .int v4_35), (0, .ref (ad 4)), (1, .ref (ad kl)), (2, .int vx), (3, .int vd)] := hl
                have aw34 : w34.toInt = v5_59.toInt + 1 := by rw [← hw34]; exact va1 (by omega)
                refine lv_goto (tgt := 59) hx hb dX10_worthTo_111 (by decide) ?_
                exact ih59 (w34) nu29 _ _ _ (by omega) (by omega)  ok hP  kp33 hS (lv_sub hl [0, 1, 2, 3, 4, 5] rfl)
        exact loop59 ((7 + 1 - (0 : Int32).toInt).toNat + 1) (0) nu13 _ _ _ (Nat.lt_succ_self _) (by have h80 : (0 : Int32).toInt = 0 := rfl; exact ⟨by omega, by omega⟩)  ok hP  kp14 hS hl
  exact loop35 (((19 : Int32).toInt + 1 - -1).toNat + 1) (19) nu7 _ _ _ (Nat.lt_succ_self _) (by have h80 : (19 : Int32).toInt = 19 := rfl; exact ⟨by omega, by omega⟩)  ok hP  kp10 hS hl
