set_option maxHeartbeats 4000000 in
set_option maxRecDepth 100000 in
/-- qx_bundle -/
theorem qx_bundle (l : Launch) (dC : Nat → ClassId) (dI : Nat → Nat → Nat) (cs : Nat → ClassId) (ad : Nat → Nat) (mu : Nat → Nat → Int32) (ok : okR loX hiX mu) (H : Heap) (hP : va_P (dC, dI) vwCl (wR 157 ad (EX cs ad) mu) H) (hD0 : va_D (fun _ => True) (wR 157 ad (EX cs ad) mu)) (vx : Int32) : Met l yX11_bundle (wU yX11_bundle cX11_bundle 7 (some .int)) ({ frames := 4, cells := 0, slots := 0, locals := 99 }) (va_Pc [.ref (ad 0), .int vx] (sz_P (dC, dI) vwCl (tyW cs) H)) (va_Qi (fun (z : Int32) (xi : Nat → Nat → Int32) => (z, xi) = F_qx_bundle mu vx ∧ okR loX hiX xi ∧ (True) ∧ (∀ k f : Nat, Nat.testBit 510 (gpX k f) = true → xi k f = mu k f)) (fun xi t => va_P (dC, dI) vwCl (wR 157 ad (EX cs ad) xi) t.heap) (va_A (wR 157 ad (EX cs ad) mu) H.size)) 0 0 (va_A (wR 157 ad (EX cs ad) mu) H.size) := by
  refine Met.ofW (cc := cX11_bundle) (maxL := 7) (ret := (some .int)) (by decide) rfl ?_
  intro p e s m args below meth c s₁ B hml hv
  obtain ⟨rfl, hh, hK, hz⟩ := hv
  have hx := B.exec
  have hb := B.bytes
  have hr := B.returns
  have hts := atoms_spec (ws := (wU yX11_bundle cX11_bundle 7 (some .int))) B.pre
  have hown : s.vm.findClass RX11 = some m.cls := findClass_of_methodNamed B.named
  have hlocks := B.notSynchronized
  subst hh
  have hD := hD0.self (sz := s.heap.size)
  have hA : ∀ q : Nat, s.heap.size ≤ q → (va_A (wR 157 ad (EX cs ad) mu) s.heap.size) q := fun q h => Or.inr h
  have hS : va_S (va_A (wR 157 ad (EX cs ad) mu) s.heap.size) s.heap s.heap [] := va_S.rf
  have hl := lv_entry ([.ref (ad 0), .int vx]) (n := 7) (Nat.le_of_ble_eq_true rfl)
  rw [lg_entry_eq]
  generalize (lg_sl ([.ref (ad 0), .int vx]) ++ List.replicate (7 - (lg_sl ([.ref (ad 0), .int vx])).length) Slot.unset).toArray = ls at hl ⊢
  have hl : lv_has ls 7 [(0, .ref (ad 0)), (1, .int vx)] := hl
  obtain ⟨fz, hfz⟩ : ∃ z, F_qx_bundle mu vx = z := ⟨_, rfl⟩
  have hF := hfz
  unfold F_qx_bundle at hF
  refine lv_aload_n hx hb dX11_bundle_0 rfl (lv_at hl 0 rfl) ?_
  refine va_get (D := (dC, dI)) (ci := 11) (v := .ref (ad 4)) (C := RX11) (T := TX11) (N := 11) hx hb hts inG11 hown hK hP 0 (gX_0 cs ad mu) rfl 3 (by decide) (hts _ (List.mem_cons_of_mem _ mw_2_161)) (fun _ h9 => h9) rfl dX11_bundle_1 ?_
  refine lv_iload_n hx hb dX11_bundle_4 rfl (lv_at hl 1 rfl) ?_
  refine cr_i (va_runV (As := [.int vx]) (rest := []) ⟨hx, hb, hml, hown, hts⟩ (sx_has l dC dI cs ad mu ok s.heap hP vx) (cwV 1 hts (wU_V mw_3_76 mw_3_73 mw_3_74 mw_3_75 mw_1_2) rfl rfl rfl (by decide +kernel) ⟨Nat.le_of_ble_eq_true rfl, Nat.le_of_ble_eq_true rfl⟩) ⟨sz_c, va_recv hK hP (ci := 10) (q0 := 4) rfl (gX_4 cs ad mu), sz_m hK hz⟩ rfl rfl hl.1 rfl (lv_room (Nat.le_of_ble_eq_true rfl)) dX11_bundle_5 ⟨Nat.zero_le _, Nat.zero_le _⟩) hS (fun r1 hw1 locs hS => ?_)
  obtain ⟨hfe1, hw1⟩ := hw1
  rcases hw1 with ⟨rfl, f1⟩ | ⟨rfl, f1⟩
  · have hF := (if_pos hfe1.symm).symm.trans hF
    have f1 : 0 ≤ vx.toInt ∧ vx.toInt < (mu 4 6).toInt ∧ (mu 4 6).toInt ≤ 7 := f1
    refine lv_if_ne (tgt := 13) hx hb dX11_bundle_8 (by decide) (fun _ => ?_) (fun c => absurd c (by decide))
    refine lv_aload_n hx hb dX11_bundle_13 rfl (lv_at hl 0 rfl) ?_
    refine va_get (D := (dC, dI)) (ci := 11) (v := .ref (ad 4)) (C := RX11) (T := TX11) (N := 11) hx hb hts inG11 hown hK hP 0 (gX_0 cs ad mu) rfl 3 (by decide) (hts _ (List.mem_cons_of_mem _ mw_2_161)) (fun _ h9 => h9) rfl dX11_bundle_14 ?_
    refine lv_iload_n hx hb dX11_bundle_17 rfl (lv_at hl 1 rfl) ?_
    refine cr_i (va_runV (As := [.int vx]) (rest := []) ⟨hx, hb, hml, hown, hts⟩ (sx_buyableBy l dC dI cs ad mu ok s.heap hP vx) (cwV 1 hts (wU_V mw_4_129 mw_4_126 mw_4_127 mw_4_128 mw_1_2) rfl rfl rfl (by decide +kernel) ⟨Nat.le_of_ble_eq_true rfl, Nat.le_of_ble_eq_true rfl⟩) ⟨sz_c, va_recv hK hP (ci := 10) (q0 := 4) rfl (gX_4 cs ad mu), sz_m hK hz⟩ rfl rfl hl.1 rfl (lv_room (Nat.le_of_ble_eq_true rfl)) dX11_bundle_18 ⟨Nat.zero_le _, Nat.zero_le _⟩) hS (fun r2 hw2 locs hS => ?_)
    obtain ⟨hfe2, hw2⟩ := hw2
    have hF := mi_let hF hfe2
    refine lv_istore_n (lv' := [(2, .int r2), (0, .ref (ad 0)), (1, .int vx)]) hx hb dX11_bundle_21 rfl hl (by decide) rfl (fun ls hl => ?_)
    refine lv_iconst (v := 0) hx hb dX11_bundle_22 (by decide) ?_
    refine lv_istore_n (lv' := [(3, .int 0), (2, .int r2), (0, .ref (ad 0)), (1, .int vx)]) hx hb dX11_bundle_23 rfl hl (by decide) rfl (fun ls hl => ?_)
    refine lv_iconst (v := 0) hx hb dX11_bundle_24 (by decide) ?_
    refine lv_istore (lv' := [(4, .int 0), (3, .int 0), (2, .int r2), (0, .ref (ad 0)), (1, .int vx)]) hx hb dX11_bundle_25 hl (by decide) rfl (fun ls hl => ?_)
    refine lv_iconst (v := 1) hx hb dX11_bundle_27 (by decide) ?_
    refine lv_istore (lv' := [(5, .int 1), (4, .int 0), (3, .int 0), (2, .int r2), (0, .ref (ad 0)), (1, .int vx)]) hx hb dX11_bundle_28 hl (by decide) rfl (fun ls hl => ?_)
    have loop30 : ∀ (n30 : Nat) (v3_30 : Int32) (v4_30 : Int32) (v5_30 : Int32) (nu30_ : Nat → Nat → Int32) (H : Heap) (locs : List Loc) (ls : Array Slot), (16 + 1 - v5_30.toInt).toNat < n30 → (0 ≤ v5_30.toInt ∧ v5_30.toInt ≤ 16) → okR loX hiX nu30_ → va_P (dC, dI) vwCl (wR 157 ad (EX cs ad) nu30_) H → (∀ k f : Nat, Nat.testBit 510 (gpX k f) = true → nu30_ k f = mu k f) → L_qx_bundle_30_0 r2 vx n30 v3_30 v4_30 v5_30 nu30_ = fz → va_S (va_A (wR 157 ad (EX cs ad) mu) s.heap.size) s.heap H locs → lv_has ls 7 [(5, .int v5_30), (4, .int v4_30), (3, .int v3_30), (2, .int r2), (0, .ref (ad 0)), (1, .int vx)] → W p l e (headSpec (wU yX11_bundle cX11_bundle 7 (some .int)) ({ frames := 4, cells := 0, slots := 0, locals := 99 })).room s m ([.ref (ad 0), .int vx] : List Value).toArray below meth c H locs 0 0 (MQ below (va_Qi (fun (z : Int32) (xi : Nat → Nat → Int32) => (z, xi) = F_qx_bundle mu vx ∧ okR loX hiX xi ∧ (True) ∧ (∀ k f : Nat, Nat.testBit 510 (gpX k f) = true → xi k f = mu k f)) (fun xi t => va_P (dC, dI) vwCl (wR 157 ad (EX cs ad) xi) t.heap) (va_A (wR 157 ad (EX cs ad) mu) s.heap.size)) ([.ref (ad 0), .int vx] : List Value).toArray s 0 0 (va_A (wR 157 ad (EX cs ad) mu) s.heap.size)) (F0 m 30 ls []) := by
      intro n30
      induction n30 with
      | zero => intro v3_30 v4_30 v5_30 nu30_ H locs ls hm; exact absurd hm (Nat.not_lt_zero _)
      | succ n30 ih30 =>
        intro v3_30 v4_30 v5_30 nu30_ H locs ls hm h_v5_30 ok hP kq30_0 hF hS hl
        rw [L_qx_bundle_30_0] at hF
        refine lv_iload hx hb dX11_bundle_30 (lv_at hl 0 rfl) ?_
        refine lv_bipush (v := 16) hx hb dX11_bundle_32 (by decide) ?_
        refine lv_icmp_ge (tgt := 96) hx hb dX11_bundle_34 (by decide) (fun c_3 => ?_) (fun c_3 => ?_)
        · have hF := (if_pos c_3).symm.trans hF
          have c_3 : 16 ≤ v5_30.toInt := il_le c_3
          refine lv_aload_n hx hb dX11_bundle_96 rfl (lv_at hl 4 rfl) ?_
          refine lv_iload hx hb dX11_bundle_97 (lv_at hl 1 rfl) ?_
          refine va_put (D := (dC, dI)) (ci := 11) (v := .int v4_30) (ty := .int) (C := RX11) (T := TX11) (N := 11) hx hb hts inG11 tyX11 tyX11_ok nmX11 hown hK hP (wR_D nu30_ hD) hS 0 (gX_0 cs ad nu30_) rfl 10 (by decide) (hts _ (List.mem_cons_of_mem _ mw_2_168)) (fun _ h9 => h9) rfl (by decide +kernel) rfl rfl (Nat.le_of_ble_eq_true rfl) dX11_bundle_99 (fun H locs hP _ hS => ?_)
          simp only [List.set_cons_succ, List.set_cons_zero] at hP
          refine wr_gen (upd (nu30_ 0) 10 v4_30) hP ((hX_0_10 cs ad _ _)) (fun nu4 hn4 hP => ?_)
          have hF := mi_let hF hn4.symm
          have ok := tX_0_10 ok hn4
          have kp5 : (∀ k f : Nat, Nat.testBit 510 (gpX k f) = true → nu4 k f = mu k f) := kp_c 0 hn4 (fun _ => rfl) (by decide) kq30_0
          have ez6 : v4_30 = nu4 0 10 := up_v hn4
          refine lv_iload_n hx hb dX11_bundle_102 rfl (lv_at hl 2 rfl) ?_
          exact W.iret (v := v3_30) hx hb hr (fun t ht hW => ⟨⟨v3_30, nu4, rfl, ⟨hF.trans hfz.symm, ok, trivial, kp5⟩, by first | (subst ht; exact hP) | (rw [ht]; exact hP) | (show va_P (dC, dI) vwCl (wR 157 ad (EX cs ad) nu4) t.heap; rw [ht]; exact hP)⟩, hS.F ht⟩) hS.2.2 dX11_bundle_103
        · have hF := (if_neg c_3).symm.trans hF
          have c_3 : v5_30.toInt < 16 := il_nle c_3
          refine lv_iload hx hb dX11_bundle_37 (lv_at hl 0 rfl) ?_
          refine cr_i (va_runS (As := [.int v5_30]) (rest := []) ⟨hx, hb, hml, hown, hts⟩ (sx_bitCount l dC dI (tyW cs) H v5_30) (va_cwS 1 hts (wU_S mw_3_90 mw_4_98 mw_3_89 mw_1_16) rfl rfl rfl (by decide +kernel) ⟨Nat.le_of_ble_eq_true rfl, Nat.le_of_ble_eq_true rfl⟩) ⟨sz_c, sz_m hK hz⟩ rfl rfl hl.1 rfl (lv_room (Nat.le_of_ble_eq_true rfl)) dX11_bundle_39 ⟨Nat.zero_le _, Nat.zero_le _⟩) hS (fun r7 hw7 locs hS => ?_)
          obtain ⟨hfe7, hw7⟩ := hw7
          have hF := mi_let hF hfe7
          refine lv_istore (lv' := [(6, .int r7), (5, .int v5_30), (4, .int v4_30), (3, .int v3_30), (2, .int r2), (0, .ref (ad 0)), (1, .int vx)]) hx hb dX11_bundle_42 hl (by decide) rfl (fun ls hl => ?_)
          refine lv_iload hx hb dX11_bundle_44 (lv_at hl 0 rfl) ?_
          refine lv_iload_n hx hb dX11_bundle_46 rfl (lv_at hl 3 rfl) ?_
          refine lv_icmp_le (tgt := 90) hx hb dX11_bundle_47 (by decide) (fun c_8 => ?_) (fun c_8 => ?_)
          · have hF := (if_pos c_8).symm.trans hF
            have c_8 : r7.toInt ≤ v3_30.toInt := il_le c_8
            refine lv_iinc (v := (v5_30 + 1)) (lv' := [(5, .int (v5_30 + 1)), (6, .int r7), (4, .int v4_30), (3, .int v3_30), (2, .int r2), (0, .ref (ad 0)), (1, .int vx)]) hx hb dX11_bundle_90 hl (k := 1) rfl rfl (by decide) rfl (fun ls hl => ?_)
            refine loc_gen (P := fun w9 => lv_has ls 7 [(5, .int w9), (6, .int r7), (4, .int v4_30), (3, .int v3_30), (2, .int r2), (0, .ref (ad 0)), (1, .int vx)]) (v5_30 + 1) hl (fun w9 hw9 hl => ?_)
            have hl : lv_has ls 7 [(5, .int w9), (6, .int r7), (4, .int v4_30), (3, .int v3_30), (2, .int r2), (0, .ref (ad 0)), (1, .int vx)] := hl
            have hF := mi_let hF hw9.symm
            have aw9 : w9.toInt = v5_30.toInt + 1 := by rw [← hw9]; exact tI_add (rfl : v5_30.toInt = _) (rfl : (1 : Int32).toInt = 1) (by omega) (by omega)
            refine lv_goto (tgt := 30) hx hb dX11_bundle_93 (by decide) ?_
            exact ih30 (v3_30) (v4_30) (w9) nu30_ _ _ _ (by omega) (by exact ⟨by omega, by omega⟩)  ok hP  kq30_0 hF hS (lv_sub hl [0, 2, 3, 4, 5, 6] rfl)
          · have hF := (if_neg c_8).symm.trans hF
            have c_8 : v3_30.toInt < r7.toInt := il_nle c_8
            refine lv_iload hx hb dX11_bundle_50 (lv_at hl 1 rfl) ?_
            refine lv_iload_n hx hb dX11_bundle_52 rfl (lv_at hl 4 rfl) ?_
            refine lv_iconst (v := (-1)) hx hb dX11_bundle_53 (by decide) ?_
            refine lv_ixor hx hb dX11_bundle_54 ?_
            refine lv_topi (fun t10 et10 => ?_)
            have hF := mi_let hF et10
            refine lv_iand hx hb dX11_bundle_55 ?_
            refine lv_topi (fun t11 et11 => ?_)
            have hF := mi_let hF et11
            refine lv_if_ne (tgt := 90) hx hb dX11_bundle_56 (by decide) (fun c_12 => ?_) (fun c_12 => ?_)
            · have hF := (if_neg c_12).symm.trans hF
              have c_12 : ¬ t11.toInt = 0 := il_ne c_12
              refine lv_iinc (v := (v5_30 + 1)) (lv' := [(5, .int (v5_30 + 1)), (6, .int r7), (4, .int v4_30), (3, .int v3_30), (2, .int r2), (0, .ref (ad 0)), (1, .int vx)]) hx hb dX11_bundle_90 hl (k := 1) rfl rfl (by decide) rfl (fun ls hl => ?_)
              refine loc_gen (P := fun w9 => lv_has ls 7 [(5, .int w9), (6, .int r7), (4, .int v4_30), (3, .int v3_30), (2, .int r2), (0, .ref (ad 0)), (1, .int vx)]) (v5_30 + 1) hl (fun w13 hw13 hl => ?_)
              have hl : lv_has ls 7 [(5, .int w13), (6, .int r7), (4, .int v4_30), (3, .int v3_30), (2, .int r2), (0, .ref (ad 0)), (1, .int vx)] := hl
              have hF := mi_let hF hw13.symm
              have aw13 : w13.toInt = v5_30.toInt + 1 := by rw [← hw13]; exact tI_add (rfl : v5_30.toInt = _) (rfl : (1 : Int32).toInt = 1) (by omega) (by omega)
              refine lv_goto (tgt := 30) hx hb dX11_bundle_93 (by decide) ?_
              exact ih30 (v3_30) (v4_30) (w13) nu30_ _ _ _ (by omega) (by exact ⟨by omega, by omega⟩)  ok hP  kq30_0 hF hS (lv_sub hl [0, 2, 3, 4, 5, 6] rfl)
            · have hF := (if_pos c_12).symm.trans hF
              have c_12 : t11.toInt = 0 := il_eq c_12
              refine lv_aload_n hx hb dX11_bundle_59 rfl (lv_at hl 5 rfl) ?_
              refine va_get (D := (dC, dI)) (ci := 11) (v := .ref (ad 4)) (C := RX11) (T := TX11) (N := 11) hx hb hts inG11 hown hK hP 0 (gX_0 cs ad nu30_) rfl 3 (by decide) (hts _ (List.mem_cons_of_mem _ mw_2_161)) (fun _ h9 => h9) rfl dX11_bundle_60 ?_
              refine lv_iload hx hb dX11_bundle_63 (lv_at hl 1 rfl) ?_
              refine cr_i (va_runV (As := [.int v5_30]) (rest := []) ⟨hx, hb, hml, hown, hts⟩ (sx_priceOfAll l dC dI cs ad nu30_ ok H hP v5_30) (cwV 1 hts (wU_V mw_4_134 mw_4_131 mw_4_132 mw_4_133 mw_1_2) rfl rfl rfl (by decide +kernel) ⟨Nat.le_of_ble_eq_true rfl, Nat.le_of_ble_eq_true rfl⟩) ⟨sz_c, va_recv hK hP (ci := 10) (q0 := 4) rfl (gX_4 cs ad nu30_), sz_m hK hz⟩ rfl rfl hl.1 rfl (lv_room (Nat.le_of_ble_eq_true rfl)) dX11_bundle_65 ⟨Nat.zero_le _, Nat.zero_le _⟩) hS (fun r14 hw14 locs hS => ?_)
              obtain ⟨hfe14, hw14⟩ := hw14
              have hF := mi_let hF hfe14
              refine lv_aload_n hx hb dX11_bundle_68 rfl (lv_at hl 5 rfl) ?_
              refine va_get (D := (dC, dI)) (ci := 11) (v := .ref (ad 4)) (C := RX11) (T := TX11) (N := 11) hx hb hts inG11 hown hK hP 0 (gX_0 cs ad nu30_) rfl 3 (by decide) (hts _ (List.mem_cons_of_mem _ mw_2_161)) (fun _ h9 => h9) rfl dX11_bundle_69 ?_
              refine va_get (D := (dC, dI)) (ci := 10) (v := .ref (ad 5)) (C := RX10) (T := TX10) (N := 8) hx hb hts inG10 hown hK hP 4 (gX_4 cs ad nu30_) rfl 3 (by decide) (hts _ (List.mem_cons_of_mem _ mw_1_157)) (fun _ h9 => h9) rfl dX11_bundle_72 ?_
              refine va_get (D := (dC, dI)) (ci := 8) (v := .ref (ad 46)) (C := RX8) (T := TX8) (N := 6) hx hb hts inG8 hown hK hP 5 (gX_5 cs ad nu30_) rfl 0 (by decide) (hts _ (List.mem_cons_of_mem _ mw_1_108)) (fun _ h9 => h9) rfl dX11_bundle_75 ?_
              refine lv_iload_n hx hb dX11_bundle_78 rfl (lv_at hl 6 rfl) ?_
              refine va_iald hx hb hK hP 46 0 (gX_46 cs ad nu30_) rfl (show vp_in vx 7 from vi_of (by omega) (by omega)) dX11_bundle_79 ?_
              refine lv_topi (fun y15 ey15 => ?_)
              have hF := mi_let hF ey15
              have by15 : y15.toInt = (nu30_ 46 vx.toNatClampNeg).toInt := congrArg Int32.toInt ey15
              refine lv_icmp_gt (tgt := 90) hx hb dX11_bundle_80 (by decide) (fun c_16 => ?_) (fun c_16 => ?_)
              · have hF := (if_pos c_16).symm.trans hF
                have c_16 : y15.toInt < r14.toInt := il_lt c_16
                refine lv_iinc (v := (v5_30 + 1)) (lv' := [(5, .int (v5_30 + 1)), (6, .int r7), (4, .int v4_30), (3, .int v3_30), (2, .int r2), (0, .ref (ad 0)), (1, .int vx)]) hx hb dX11_bundle_90 hl (k := 1) rfl rfl (by decide) rfl (fun ls hl => ?_)
                refine loc_gen (P := fun w9 => lv_has ls 7 [(5, .int w9), (6, .int r7), (4, .int v4_30), (3, .int v3_30), (2, .int r2), (0, .ref (ad 0)), (1, .int vx)]) (v5_30 + 1) hl (fun w17 hw17 hl => ?_)
                have hl : lv_has ls 7 [(5, .int w17), (6, .int r7), (4, .int v4_30), (3, .int v3_30), (2, .int r2), (0, .ref (ad 0)), (1, .int vx)] := hl
                have hF := mi_let hF hw17.symm
                have aw17 : w17.toInt = v5_30.toInt + 1 := by rw [← hw17]; exact tI_add (rfl : v5_30.toInt = _) (rfl : (1 : Int32).toInt = 1) (by omega) (by omega)
                refine lv_goto (tgt := 30) hx hb dX11_bundle_93 (by decide) ?_
                exact ih30 (v3_30) (v4_30) (w17) nu30_ _ _ _ (by omega) (by exact ⟨by omega, by omega⟩)  ok hP  kq30_0 hF hS (lv_sub hl [0, 2, 3, 4, 5, 6] rfl)
              · have hF := (if_neg c_16).symm.trans hF
                have c_16 : r14.toInt ≤ y15.toInt := il_nlt c_16
                refine lv_iload hx hb dX11_bundle_83 (lv_at hl 0 rfl) ?_
                refine lv_istore_n (lv' := [(3, .int r7), (6, .int r7), (5, .int v5_30), (4, .int v4_30), (2, .int r2), (0, .ref (ad 0)), (1, .int vx)]) hx hb dX11_bundle_85 rfl hl (by decide) rfl (fun ls hl => ?_)
                refine lv_iload hx hb dX11_bundle_86 (lv_at hl 2 rfl) ?_
                refine lv_istore (lv' := [(4, .int v5_30), (3, .int r7), (6, .int r7), (5, .int v5_30), (2, .int r2), (0, .ref (ad 0)), (1, .int vx)]) hx hb dX11_bundle_88 hl (by decide) rfl (fun ls hl => ?_)
                refine lv_iinc (v := (v5_30 + 1)) (lv' := [(5, .int (v5_30 + 1)), (4, .int v5_30), (3, .int r7), (6, .int r7), (2, .int r2), (0, .ref (ad 0)), (1, .int vx)]) hx hb dX11_bundle_90 hl (k := 3) rfl rfl (by decide) rfl (fun ls hl => ?_)
                refine loc_gen (P := fun w9 => lv_has ls 7 [(5, .int w9), (4, .int v5_30), (3, .int r7), (6, .int r7), (2, .int r2), (0, .ref (ad 0)), (1, .int vx)]) (v5_30 + 1) hl (fun w18 hw18 hl => ?_)
                have hl : lv_has ls 7 [(5, .int w18), (4, .int v5_30), (3, .int r7), (6, .int r7), (2, .int r2), (0, .ref (ad 0)), (1, .int vx)] := hl
                have hF := mi_let hF hw18.symm
                have aw18 : w18.toInt = v5_30.toInt + 1 := by rw [← hw18]; exact tI_add (rfl : v5_30.toInt = _) (rfl : (1 : Int32).toInt = 1) (by omega) (by omega)
                refine lv_goto (tgt := 30) hx hb dX11_bundle_93 (by decide) ?_
                exact ih30 (r7) (v5_30) (w18) nu30_ _ _ _ (by omega) (by exact ⟨by omega, by omega⟩)  ok hP  kq30_0 hF hS (lv_sub hl [0, 1, 2, 4, 5, 6] rfl)
    exact loop30 19 (0) (0) (1) mu _ _ _ (by have h80 : (0 : Int32).toInt = 0 := rfl; have h81 : (0 : Int32).toInt = 0 := rfl; have h82 : (1 : Int32).toInt = 1 := rfl; omega) (by have h80 : (1 : Int32).toInt = 1 := rfl; exact ⟨by omega, by omega⟩)  ok hP  (fun _ _ _ => rfl) hF hS hl
  · have hF := (if_neg (fun h => absurd (hfe1.trans h) (by decide))).symm.trans hF
    have f1 : vx.toInt < 0 ∨ (mu 4 6).toInt ≤ vx.toInt := f1
    refine lv_if_ne (tgt := 13) hx hb dX11_bundle_8 (by decide) (fun c => absurd (by decide) c) (fun _ => ?_)
    refine lv_iconst (v := (-1)) hx hb dX11_bundle_11 (by decide) ?_
    exact W.iret (v := (-1)) hx hb hr (fun t ht hW => ⟨⟨(-1), mu, rfl, ⟨hF.trans hfz.symm, ok, trivial, (fun _ _ _ => rfl)⟩, by first | (subst ht; exact hP) | (rw [ht]; exact hP) | (show va_P (dC, dI) vwCl (wR 157 ad (EX cs ad) mu) t.heap; rw [ht]; exact hP)⟩, hS.F ht⟩) hS.2.2 dX11_bundle_12
