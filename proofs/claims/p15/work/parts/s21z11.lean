set_option maxHeartbeats 4000000 in
set_option maxRecDepth 100000 in
/-- sx_walkOn3 -/
theorem sx_walkOn3 (l : Launch) (dC : Nat → ClassId) (dI : Nat → Nat → Nat) (cs : Nat → ClassId) (ad : Nat → Nat) (mu : Nat → Nat → Int32) (ok : okR loX hiX mu) (H : Heap) (hP : va_P (dC, dI) vwCl (wR 157 ad (EX cs ad) mu) H) (hD0 : va_D (fun _ => True) (wR 157 ad (EX cs ad) mu)) (vu : Int32) (vp : Int32) : Met l yX5_walkOn (wU yX5_walkOn cX5_walkOn 9 none) ({ frames := 5, cells := 0, slots := 0, locals := 163 }) (va_Pc [.ref (ad 32), .ref (ad 4), .int 3, .int vu, .int vp] (sz_P (dC, dI) vwCl (tyW cs) H)) (va_Qv (fun (xi : Nat → Nat → Int32) => okR loX hiX xi ∧ (True) ∧ (∀ k f : Nat, Nat.testBit 510 (gpX k f) = true → xi k f = mu k f)) (fun xi t => va_P (dC, dI) vwCl (wR 157 ad (EX cs ad) xi) t.heap) (va_A (wR 157 ad (EX cs ad) mu) H.size)) 0 0 (va_A (wR 157 ad (EX cs ad) mu) H.size) := by
  refine Met.ofW (cc := cX5_walkOn) (maxL := 9) (ret := none) (by decide) rfl ?_
  intro p e s m args below meth c s₁ B hml hv
  obtain ⟨rfl, hh, hK, hz⟩ := hv
  have hx := B.exec
  have hb := B.bytes
  have hr := B.returns
  have hts := atoms_spec (ws := (wU yX5_walkOn cX5_walkOn 9 none)) B.pre
  have hown : s.vm.findClass RX5 = some m.cls := findClass_of_methodNamed B.named
  have hlocks := B.notSynchronized
  subst hh
  have hD := hD0.self (sz := s.heap.size)
  have hA : ∀ q : Nat, s.heap.size ≤ q → (va_A (wR 157 ad (EX cs ad) mu) s.heap.size) q := fun q h => Or.inr h
  have hS : va_S (va_A (wR 157 ad (EX cs ad) mu) s.heap.size) s.heap s.heap [] := va_S.rf
  have hl := lv_entry ([.ref (ad 32), .ref (ad 4), .int 3, .int vu, .int vp]) (n := 9) (Nat.le_of_ble_eq_true rfl)
  rw [lg_entry_eq]
  generalize (lg_sl ([.ref (ad 32), .ref (ad 4), .int 3, .int vu, .int vp]) ++ List.replicate (9 - (lg_sl ([.ref (ad 32), .ref (ad 4), .int 3, .int vu, .int vp])).length) Slot.unset).toArray = ls at hl ⊢
  have hl : lv_has ls 9 [(0, .ref (ad 32)), (1, .ref (ad 4)), (2, .int 3), (3, .int vu), (4, .int vp)] := hl
  refine lv_aload_n hx hb dX5_walkOn_0 rfl (lv_at hl 0 rfl) ?_
  refine va_get (D := (dC, dI)) (ci := 5) (v := .ref (ad 54)) (C := RX5) (T := TX5) (N := 15) hx hb hts inG5 hown hK hP 32 (gX_32 cs ad mu) rfl 2 (by decide) (hts _ (List.mem_cons_of_mem _ mw_2_48)) (fun _ h9 => h9) rfl dX5_walkOn_1 ?_
  refine lv_iload_n hx hb dX5_walkOn_4 rfl (lv_at hl 2 rfl) ?_
  refine va_iald hx hb hK hP 54 0 (gX_54 cs ad mu) rfl (show vp_in 3 7 from (by unfold vp_in; decide)) dX5_walkOn_5 ?_
  refine lv_topi (fun y1 ey1 => ?_)
  have by1 : y1.toInt = (mu 54 (3 : Int32).toNatClampNeg).toInt := congrArg Int32.toInt ey1
  have gy1 : 0 ≤ y1.toInt ∧ y1.toInt ≤ 6 := by rw [ey1]; exact rX_54_s ok (3 : Int32).toNatClampNeg
  refine lv_istore (lv' := [(5, .int y1), (0, .ref (ad 32)), (1, .ref (ad 4)), (2, .int 3), (3, .int vu), (4, .int vp)]) hx hb dX5_walkOn_6 hl (by decide) rfl (fun ls hl => ?_)
  refine lv_aload_n hx hb dX5_walkOn_8 rfl (lv_at hl 2 rfl) ?_
  refine va_get (D := (dC, dI)) (ci := 10) (v := .ref (ad 34)) (C := RX10) (T := TX10) (N := 8) hx hb hts inG10 hown hK hP 4 (gX_4 cs ad mu) rfl 0 (by decide) (hts _ (List.mem_cons_of_mem _ mw_1_146)) (fun _ h9 => h9) rfl dX5_walkOn_9 ?_
  refine lv_iload hx hb dX5_walkOn_12 (lv_at hl 0 rfl) ?_
  refine va_iald hx hb hK hP 34 0 (gX_34 cs ad mu) rfl (show vp_in y1 7 from vi_of (by omega) (by omega)) dX5_walkOn_14 ?_
  refine lv_topi (fun y2 ey2 => ?_)
  have by2 : y2.toInt = (mu 34 y1.toNatClampNeg).toInt := congrArg Int32.toInt ey2
  refine lv_iload hx hb dX5_walkOn_15 (lv_at hl 5 rfl) ?_
  refine cr_i (va_runSN (As := [.int y2, .int vp]) (rest := []) ⟨hx, hb, hml, hown, hts⟩ (sx_priceAsked l dC dI (tyW cs) s.heap y2 vp) ⟨va_cnB 2 hts (wU_in mw_3_107) rfl rfl rfl (hz.2.2.2.2.2.2.2.2.2.2.2.2.2.1) (hts _ (List.mem_cons_of_mem _ mw_1_1)) (by decide +kernel) ⟨Nat.le_of_ble_eq_true rfl, Nat.le_of_ble_eq_true rfl⟩, (hts _ (List.mem_cons_of_mem _ mw_3_106)), trivial⟩ ⟨sz_c, sz_m hK hz⟩ rfl rfl hl.1 rfl (lv_room (Nat.le_of_ble_eq_true rfl)) dX5_walkOn_17 ⟨Nat.zero_le _, Nat.zero_le _⟩) hS (fun r3 hw3 locs hS => ?_)
  obtain ⟨hfe3, hw3⟩ := hw3
  refine lv_istore (lv' := [(6, .int r3), (5, .int y1), (0, .ref (ad 32)), (1, .ref (ad 4)), (2, .int 3), (3, .int vu), (4, .int vp)]) hx hb dX5_walkOn_20 hl (by decide) rfl (fun ls hl => ?_)
  refine lv_iload_n hx hb dX5_walkOn_22 rfl (lv_at hl 4 rfl) ?_
  refine lv_iconst (v := 1) hx hb dX5_walkOn_23 (by decide) ?_
  refine lv_iadd hx hb dX5_walkOn_24 ?_
  refine lq_i 4 (by decide) ?_
  refine lv_istore (lv' := [(7, .int 4), (6, .int r3), (5, .int y1), (0, .ref (ad 32)), (1, .ref (ad 4)), (2, .int 3), (3, .int vu), (4, .int vp)]) hx hb dX5_walkOn_25 hl (by decide) rfl (fun ls hl => ?_)
  refine lv_iconst (v := 0) hx hb dX5_walkOn_27 (by decide) ?_
  refine lv_istore (lv' := [(8, .int 0), (7, .int 4), (6, .int r3), (5, .int y1), (0, .ref (ad 32)), (1, .ref (ad 4)), (2, .int 3), (3, .int vu), (4, .int vp)]) hx hb dX5_walkOn_28 hl (by decide) rfl (fun ls hl => ?_)
  have loop30 : ∀ (n30 : Nat) (v8_30 : Int32) (nu30_ : Nat → Nat → Int32) (H : Heap) (locs : List Loc) (ls : Array Slot), (7 + 1 - v8_30.toInt).toNat < n30 → (0 ≤ v8_30.toInt ∧ v8_30.toInt ≤ 7) → okR loX hiX nu30_ → va_P (dC, dI) vwCl (wR 157 ad (EX cs ad) nu30_) H → (∀ k f : Nat, Nat.testBit 510 (gpX k f) = true → nu30_ k f = mu k f) → va_S (va_A (wR 157 ad (EX cs ad) mu) s.heap.size) s.heap H locs → lv_has ls 9 [(8, .int v8_30), (7, .int 4), (6, .int r3), (5, .int y1), (0, .ref (ad 32)), (1, .ref (ad 4)), (2, .int 3), (3, .int vu), (4, .int vp)] → W p l e (headSpec (wU yX5_walkOn cX5_walkOn 9 none) ({ frames := 5, cells := 0, slots := 0, locals := 163 })).room s m ([.ref (ad 32), .ref (ad 4), .int 3, .int vu, .int vp] : List Value).toArray below meth c H locs 0 0 (MQ below (va_Qv (fun (xi : Nat → Nat → Int32) => okR loX hiX xi ∧ (True) ∧ (∀ k f : Nat, Nat.testBit 510 (gpX k f) = true → xi k f = mu k f)) (fun xi t => va_P (dC, dI) vwCl (wR 157 ad (EX cs ad) xi) t.heap) (va_A (wR 157 ad (EX cs ad) mu) s.heap.size)) ([.ref (ad 32), .ref (ad 4), .int 3, .int vu, .int vp] : List Value).toArray s 0 0 (va_A (wR 157 ad (EX cs ad) mu) s.heap.size)) (F0 m 30 ls []) := by
    intro n30
    induction n30 with
    | zero => intro v8_30 nu30_ H locs ls hm; exact absurd hm (Nat.not_lt_zero _)
    | succ n30 ih30 =>
      intro v8_30 nu30_ H locs ls hm h_v8_30 ok hP kq30_0 hS hl
      refine lv_iload hx hb dX5_walkOn_30 (lv_at hl 0 rfl) ?_
      refine lv_aload_n hx hb dX5_walkOn_32 rfl (lv_at hl 5 rfl) ?_
      refine va_get (D := (dC, dI)) (ci := 10) (v := .int (nu30_ 4 6)) (C := RX10) (T := TX10) (N := 8) hx hb hts inG10 hown hK hP 4 (gX_4 cs ad nu30_) rfl 6 (by decide) (hts _ (List.mem_cons_of_mem _ mw_1_162)) (fun _ h9 => h9) rfl dX5_walkOn_33 ?_
      refine lv_topi (fun y4 ey4 => ?_)
      have by4 : y4.toInt = (nu30_ 4 6).toInt := congrArg Int32.toInt ey4
      have gy4 : 0 ≤ y4.toInt ∧ y4.toInt ≤ 7 := by rw [ey4]; exact rX_4_6 ok
      refine lv_icmp_ge (tgt := 115) hx hb dX5_walkOn_36 (by decide) (fun c_5 => ?_) (fun c_5 => ?_)
      · have c_5 : y4.toInt ≤ v8_30.toInt := il_le c_5
        exact W.vret hx hb hr (fun t ht hW => ⟨⟨nu30_, rfl, ⟨ok, trivial, kq30_0⟩, by first | (subst ht; exact hP) | (rw [ht]; exact hP) | (show va_P (dC, dI) vwCl (wR 157 ad (EX cs ad) nu30_) t.heap; rw [ht]; exact hP)⟩, hS.F ht⟩) hS.2.2 dX5_walkOn_115
      · have c_5 : v8_30.toInt < y4.toInt := il_nle c_5
        refine lv_iload hx hb dX5_walkOn_39 (lv_at hl 1 rfl) ?_
        refine lv_bipush (v := 7) hx hb dX5_walkOn_41 (by decide) ?_
        refine lv_icmp_ge (tgt := 115) hx hb dX5_walkOn_43 (by decide) (fun c => absurd c (by decide)) (fun _ => ?_)
        refine lv_aload_n hx hb dX5_walkOn_46 rfl (lv_at hl 4 rfl) ?_
        refine lv_aload_n hx hb dX5_walkOn_47 rfl (lv_at hl 5 rfl) ?_
        refine lv_iload hx hb dX5_walkOn_48 (lv_at hl 3 rfl) ?_
        refine lv_iload hx hb dX5_walkOn_50 (lv_at hl 0 rfl) ?_
        refine lv_iload_n hx hb dX5_walkOn_52 rfl (lv_at hl 7 rfl) ?_
        refine lv_iload hx hb dX5_walkOn_53 (lv_at hl 2 rfl) ?_
        refine cr_i (va_runV (As := [.ref (ad 4), .int y1, .int v8_30, .int vu, .int r3]) (rest := []) ⟨hx, hb, hml, hown, hts⟩ (sx_buys l dC dI cs ad nu30_ ok H hP y1 v8_30 vu r3 (by omega)) (cwV 5 hts (wU_V mw_4_34 mw_4_31 mw_4_33 mw_0_14 mw_1_8) rfl rfl rfl (by decide +kernel) ⟨Nat.le_of_ble_eq_true rfl, Nat.le_of_ble_eq_true rfl⟩) ⟨sz_c, va_recv hK hP (ci := 5) (q0 := 32) rfl (gX_32 cs ad nu30_), sz_m hK hz⟩ rfl rfl hl.1 rfl (lv_room (Nat.le_of_ble_eq_true rfl)) dX5_walkOn_55 ⟨Nat.zero_le _, Nat.zero_le _⟩) hS (fun r6 hw6 locs hS => ?_)
        have gr6 : 0 ≤ r6.toInt ∧ r6.toInt ≤ 1 := hw6
        refine lv_if_ne (tgt := 64) hx hb dX5_walkOn_58 (by decide) (fun c_7 => ?_) (fun c_7 => ?_)
        · have c_7 : ¬ r6.toInt = 0 := il_ne c_7
          refine lv_aload_n hx hb dX5_walkOn_64 rfl (lv_at hl 4 rfl) ?_
          refine va_get (D := (dC, dI)) (ci := 5) (v := .ref (ad 54)) (C := RX5) (T := TX5) (N := 15) hx hb hts inG5 hown hK hP 32 (gX_32 cs ad nu30_) rfl 2 (by decide) (hts _ (List.mem_cons_of_mem _ mw_2_48)) (fun _ h9 => h9) rfl dX5_walkOn_65 ?_
          refine lv_iload hx hb dX5_walkOn_68 (lv_at hl 1 rfl) ?_
          refine lv_iload hx hb dX5_walkOn_70 (lv_at hl 0 rfl) ?_
          refine va_iast hx hb hK hP (wR_D nu30_ hD) hS 54 0 (gX_54 cs ad nu30_) rfl (show vp_in 4 7 from (by unfold vp_in; decide)) dX5_walkOn_72 (fun H locs hP _ hS => ?_)
          refine wr_gen (upd (nu30_ 54) (4 : Int32).toNatClampNeg v8_30) hP (rfl) (fun nu8 hn8 hP => ?_)
          have ok := tX_54_s ok (4 : Int32).toNatClampNeg hn8 (by exact ⟨by omega, by omega⟩)
          have ez9 : y4 = nu8 4 6 := ey4.trans (congrFun (up_k hn8 (by decide)) 6).symm
          have kp10 : (∀ k f : Nat, Nat.testBit 510 (gpX k f) = true → nu8 k f = mu k f) := kp_c 0 hn8 (fun _ => rfl) (by decide) kq30_0
          refine lv_iload hx hb dX5_walkOn_73 (lv_at hl 0 rfl) ?_
          refine lv_aload_n hx hb dX5_walkOn_75 rfl (lv_at hl 4 rfl) ?_
          refine va_get (D := (dC, dI)) (ci := 5) (v := .int (nu8 32 6)) (C := RX5) (T := TX5) (N := 15) hx hb hts inG5 hown hK hP 32 (gX_32 cs ad nu8) rfl 6 (by decide) (hts _ (List.mem_cons_of_mem _ mw_2_54)) (fun _ h9 => h9) rfl dX5_walkOn_76 ?_
          refine lv_topi (fun y11 ey11 => ?_)
          have by11 : y11.toInt = (nu8 32 6).toInt := congrArg Int32.toInt ey11
          have gy11 : 0 ≤ y11.toInt ∧ y11.toInt ≤ 6 := by rw [ey11]; exact rX_32_6 ok
          refine lv_icmp_ne (tgt := 94) hx hb dX5_walkOn_79 (by decide) (fun c_12 => ?_) (fun c_12 => ?_)
          · have c_12 : ¬ v8_30.toInt = y11.toInt := il_ne c_12
            refine lv_aload_n hx hb dX5_walkOn_94 rfl (lv_at hl 4 rfl) ?_
            refine lv_aload_n hx hb dX5_walkOn_95 rfl (lv_at hl 5 rfl) ?_
            refine lv_iload hx hb dX5_walkOn_96 (lv_at hl 1 rfl) ?_
            refine lv_iload_n hx hb dX5_walkOn_98 rfl (lv_at hl 7 rfl) ?_
            refine lv_iconst (v := 1) hx hb dX5_walkOn_99 (by decide) ?_
            refine lv_iload hx hb dX5_walkOn_100 (lv_at hl 0 rfl) ?_
            refine lv_ishl hx hb dX5_walkOn_102 ?_
            refine lv_topi (fun t13 et13 => ?_)
            refine lv_ior hx hb dX5_walkOn_103 ?_
            refine lv_topi (fun t14 et14 => ?_)
            refine lv_iload hx hb dX5_walkOn_104 (lv_at hl 2 rfl) ?_
            have hFc := fr_all (wR_D nu8 hD) hS hA
            refine va_callv (va_runV (As := [.ref (ad 4), .int 4, .int t14, .int r3]) (rest := []) ⟨hx, hb, hml, hown, hts⟩ (sx_walkOn4 l dC dI cs ad nu8 ok H hP ((wR_D nu8 hD).weaken (fun _ _ _ _ => trivial)) t14 r3) (cwV 4 hts (wU_V mw_4_29 mw_4_26 mw_4_28 mw_0_13 mw_1_8) rfl rfl rfl (by decide +kernel) ⟨Nat.le_of_ble_eq_true rfl, Nat.le_of_ble_eq_true rfl⟩) ⟨sz_c, va_recv hK hP (ci := 5) (q0 := 32) rfl (gX_32 cs ad nu8), sz_m hK hz⟩ rfl rfl hl.1 rfl (lv_room (Nat.le_of_ble_eq_true rfl)) dX5_walkOn_106 ⟨Nat.zero_le _, Nat.zero_le _⟩) hS (fun q _ h => hFc q h) hFc (fun xi15 t H15 locs ht hvm hw15 hB hz1 hk1 hS => ?_)
            have hP : va_P (dC, dI) vwCl (wR 157 ad (EX cs ad) xi15) H15 := by rw [← ht]; exact hB
            obtain ⟨ok, hw15, hkp15_0⟩ := hw15
            have kp16 : (∀ k f : Nat, Nat.testBit 510 (gpX k f) = true → xi15 k f = mu k f) := kp_t hkp15_0 (by decide) kp10
            refine lv_iinc (v := (v8_30 + 1)) (lv' := [(8, .int (v8_30 + 1)), (7, .int 4), (6, .int r3), (5, .int y1), (0, .ref (ad 32)), (1, .ref (ad 4)), (2, .int 3), (3, .int vu), (4, .int vp)]) hx hb dX5_walkOn_109 hl (k := 0) rfl rfl (by decide) rfl (fun ls hl => ?_)
            refine loc_gen (P := fun w9 => lv_has ls 9 [(8, .int w9), (7, .int 4), (6, .int r3), (5, .int y1), (0, .ref (ad 32)), (1, .ref (ad 4)), (2, .int 3), (3, .int vu), (4, .int vp)]) (v8_30 + 1) hl (fun w17 hw17 hl => ?_)
            have hl : lv_has ls 9 [(8, .int w17), (7, .int 4), (6, .int r3), (5, .int y1), (0, .ref (ad 32)), (1, .ref (ad 4)), (2, .int 3), (3, .int vu), (4, .int vp)] := hl
            have aw17 : w17.toInt = v8_30.toInt + 1 := by rw [← hw17]; exact tI_add (rfl : v8_30.toInt = _) (rfl : (1 : Int32).toInt = 1) (by omega) (by omega)
            refine lv_goto (tgt := 30) hx hb dX5_walkOn_112 (by decide) ?_
            exact ih30 (w17) xi15 _ _ _ (by omega) (by exact ⟨by omega, by omega⟩)  ok hP  kp16 hS (lv_sub hl [0, 1, 2, 3, 4, 5, 6, 7, 8] rfl)
          · have c_12 : v8_30.toInt = y11.toInt := il_eq c_12
            refine lv_aload_n hx hb dX5_walkOn_82 rfl (lv_at hl 4 rfl) ?_
            refine lv_iload hx hb dX5_walkOn_83 (lv_at hl 1 rfl) ?_
            refine lv_iload_n hx hb dX5_walkOn_85 rfl (lv_at hl 7 rfl) ?_
            refine lv_iload hx hb dX5_walkOn_86 (lv_at hl 2 rfl) ?_
            have hFc := fr_all (wR_D nu8 hD) hS hA
            refine va_callv (va_runV (As := [.int 4, .int vu, .int r3]) (rest := []) ⟨hx, hb, hml, hown, hts⟩ (sx_R_arrive l dC dI cs ad nu8 ok H hP ((wR_D nu8 hD).weaken (fun _ _ _ _ => trivial)) 4 vu r3 (by have h50 : (4 : Int32).toInt = 4 := rfl; omega)) (cwV 3 hts (wU_V mw_4_39 mw_4_36 mw_4_38 mw_0_15 mw_1_8) rfl rfl rfl (by decide +kernel) ⟨Nat.le_of_ble_eq_true rfl, Nat.le_of_ble_eq_true rfl⟩) ⟨sz_c, va_recv hK hP (ci := 5) (q0 := 32) rfl (gX_32 cs ad nu8), sz_m hK hz⟩ rfl rfl hl.1 rfl (lv_room (Nat.le_of_ble_eq_true rfl)) dX5_walkOn_88 ⟨Nat.zero_le _, Nat.zero_le _⟩) hS (fun q _ h => hFc q h) hFc (fun xi18 t H18 locs ht hvm hw18 hB hz1 hk1 hS => ?_)
            have hP : va_P (dC, dI) vwCl (wR 157 ad (EX cs ad) xi18) H18 := by rw [← ht]; exact hB
            obtain ⟨ok, hw18, hkp18_0⟩ := hw18
            have kp19 : (∀ k f : Nat, Nat.testBit 510 (gpX k f) = true → xi18 k f = mu k f) := kp_t hkp18_0 (by decide) kp10
            refine lv_goto (tgt := 109) hx hb dX5_walkOn_91 (by decide) ?_
            refine lv_iinc (v := (v8_30 + 1)) (lv' := [(8, .int (v8_30 + 1)), (7, .int 4), (6, .int r3), (5, .int y1), (0, .ref (ad 32)), (1, .ref (ad 4)), (2, .int 3), (3, .int vu), (4, .int vp)]) hx hb dX5_walkOn_109 hl (k := 0) rfl rfl (by decide) rfl (fun ls hl => ?_)
            refine loc_gen (P := fun w9 => lv_has ls 9 [(8, .int w9), (7, .int 4), (6, .int r3), (5, .int y1), (0, .ref (ad 32)), (1, .ref (ad 4)), (2, .int 3), (3, .int vu), (4, .int vp)]) (v8_30 + 1) hl (fun w20 hw20 hl => ?_)
            have hl : lv_has ls 9 [(8, .int w20), (7, .int 4), (6, .int r3), (5, .int y1), (0, .ref (ad 32)), (1, .ref (ad 4)), (2, .int 3), (3, .int vu), (4, .int vp)] := hl
            have aw20 : w20.toInt = v8_30.toInt + 1 := by rw [← hw20]; exact tI_add (rfl : v8_30.toInt = _) (rfl : (1 : Int32).toInt = 1) (by omega) (by omega)
            refine lv_goto (tgt := 30) hx hb dX5_walkOn_112 (by decide) ?_
            exact ih30 (w20) xi18 _ _ _ (by omega) (by exact ⟨by omega, by omega⟩)  ok hP  kp19 hS (lv_sub hl [0, 1, 2, 3, 4, 5, 6, 7, 8] rfl)
        · have c_7 : r6.toInt = 0 := il_eq c_7
          refine lv_goto (tgt := 109) hx hb dX5_walkOn_61 (by decide) ?_
          refine lv_iinc (v := (v8_30 + 1)) (lv' := [(8, .int (v8_30 + 1)), (7, .int 4), (6, .int r3), (5, .int y1), (0, .ref (ad 32)), (1, .ref (ad 4)), (2, .int 3), (3, .int vu), (4, .int vp)]) hx hb dX5_walkOn_109 hl (k := 0) rfl rfl (by decide) rfl (fun ls hl => ?_)
          refine loc_gen (P := fun w9 => lv_has ls 9 [(8, .int w9), (7, .int 4), (6, .int r3), (5, .int y1), (0, .ref (ad 32)), (1, .ref (ad 4)), (2, .int 3), (3, .int vu), (4, .int vp)]) (v8_30 + 1) hl (fun w21 hw21 hl => ?_)
          have hl : lv_has ls 9 [(8, .int w21), (7, .int 4), (6, .int r3), (5, .int y1), (0, .ref (ad 32)), (1, .ref (ad 4)), (2, .int 3), (3, .int vu), (4, .int vp)] := hl
          have aw21 : w21.toInt = v8_30.toInt + 1 := by rw [← hw21]; exact tI_add (rfl : v8_30.toInt = _) (rfl : (1 : Int32).toInt = 1) (by omega) (by omega)
          refine lv_goto (tgt := 30) hx hb dX5_walkOn_112 (by decide) ?_
          exact ih30 (w21) nu30_ _ _ _ (by omega) (by exact ⟨by omega, by omega⟩)  ok hP  kq30_0 hS (lv_sub hl [0, 1, 2, 3, 4, 5, 6, 7, 8] rfl)
  exact loop30 ((7 + 1 - (0 : Int32).toInt).toNat + 1) (0) mu _ _ _ (Nat.lt_succ_self _) (by have h80 : (0 : Int32).toInt = 0 := rfl; exact ⟨by omega, by omega⟩)  ok hP  (fun _ _ _ => rfl) hS hl
