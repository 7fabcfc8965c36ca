set_option maxHeartbeats 4000000 in
set_option maxRecDepth 100000 in
/-- qx_send -/
theorem qx_send (l : Launch) (dC : Nat → ClassId) (dI : Nat → Nat → Nat) (cs : Nat → ClassId) (ad : Nat → Nat) (mu : Nat → Nat → Int32) (ok : okR loX hiX mu) (H : Heap) (hP : va_P (dC, dI) vwCl (wR 157 ad (EX cs ad) mu) H) (hD0 : va_D (fun _ => True) (wR 157 ad (EX cs ad) mu)) (vx : Int32) (vy : Int32) (vw : Int32) (vf : Int32) : Met l yX11_send (wU yX11_send cX11_send 6 (some .int)) ({ frames := 2, cells := 0, slots := 0, locals := 43 }) (va_Pc [.ref (ad 0), .int vx, .int vy, .int vw, .int vf] (sz_P (dC, dI) vwCl (tyW cs) H)) (va_Qi (fun (z : Int32) (xi : Nat → Nat → Int32) => (z, xi) = F_qx_send mu vx vy vw vf ∧ okR loX hiX xi ∧ (True) ∧ (∀ k f : Nat, Nat.testBit 246 (gpX k f) = true → xi k f = mu k f)) (fun xi t => va_P (dC, dI) vwCl (wR 157 ad (EX cs ad) xi) t.heap) (va_A (wR 157 ad (EX cs ad) mu) H.size)) 0 0 (va_A (wR 157 ad (EX cs ad) mu) H.size) := by
  refine Met.ofW (cc := cX11_send) (maxL := 6) (ret := (some .int)) (by decide) rfl ?_
  intro p e s m args below meth c s₁ B hml hv
  obtain ⟨rfl, hh, hK, hz⟩ := hv
  have hx := B.exec
  have hb := B.bytes
  have hr := B.returns
  have hts := atoms_spec (ws := (wU yX11_send cX11_send 6 (some .int))) B.pre
  have hown : s.vm.findClass RX11 = some m.cls := findClass_of_methodNamed B.named
  have hlocks := B.notSynchronized
  subst hh
  have hD := hD0.self (sz := s.heap.size)
  have hA : ∀ q : Nat, s.heap.size ≤ q → (va_A (wR 157 ad (EX cs ad) mu) s.heap.size) q := fun q h => Or.inr h
  have hS : va_S (va_A (wR 157 ad (EX cs ad) mu) s.heap.size) s.heap s.heap [] := va_S.rf
  have hl := lv_entry ([.ref (ad 0), .int vx, .int vy, .int vw, .int vf]) (n := 6) (Nat.le_of_ble_eq_true rfl)
  rw [lg_entry_eq]
  generalize (lg_sl ([.ref (ad 0), .int vx, .int vy, .int vw, .int vf]) ++ List.replicate (6 - (lg_sl ([.ref (ad 0), .int vx, .int vy, .int vw, .int vf])).length) Slot.unset).toArray = ls at hl ⊢
  have hl : lv_has ls 6 [(0, .ref (ad 0)), (1, .int vx), (2, .int vy), (3, .int vw), (4, .int vf)] := hl
  obtain ⟨fz, hfz⟩ : ∃ z, F_qx_send mu vx vy vw vf = z := ⟨_, rfl⟩
  have hF := hfz
  unfold F_qx_send at hF
  refine lv_aload_n hx hb dX11_send_0 rfl (lv_at hl 0 rfl) ?_
  refine lv_iload_n hx hb dX11_send_1 rfl (lv_at hl 1 rfl) ?_
  refine lv_iload_n hx hb dX11_send_2 rfl (lv_at hl 2 rfl) ?_
  refine cr_i (va_runV (As := [.int vx, .int vy]) (rest := []) ⟨hx, hb, hml, hown, hts⟩ (sx_isPair l dC dI cs ad mu ok s.heap hP vx vy) (cwV 2 hts (wU_V mw_3_145 mw_3_142 mw_3_144 mw_0_7 mw_1_1) rfl rfl rfl (by decide +kernel) ⟨Nat.le_of_ble_eq_true rfl, Nat.le_of_ble_eq_true rfl⟩) ⟨sz_c, va_recv hK hP (ci := 11) (q0 := 0) rfl (gX_0 cs ad mu), sz_m hK hz⟩ rfl rfl hl.1 rfl (lv_room (Nat.le_of_ble_eq_true rfl)) dX11_send_3 ⟨Nat.zero_le _, Nat.zero_le _⟩) hS (fun r1 hw1 locs hS => ?_)
  obtain ⟨hfe1, hw1⟩ := hw1
  rcases hw1 with ⟨rfl, f1⟩ | ⟨rfl, f1⟩
  · have hF := (if_pos hfe1.symm).symm.trans hF
    have f1 : 0 ≤ vx.toInt ∧ vx.toInt < (mu 4 6).toInt ∧ 0 ≤ vy.toInt ∧ vy.toInt < (mu 4 6).toInt ∧ (mu 4 6).toInt ≤ 7 := f1
    refine lv_if_eq (tgt := 31) hx hb dX11_send_6 (by decide) (fun c => absurd c (by decide)) (fun _ => ?_)
    refine lv_iload_n hx hb dX11_send_9 rfl (lv_at hl 3 rfl) ?_
    refine lv_if_lt (tgt := 31) hx hb dX11_send_10 (by decide) (fun c_2 => ?_) (fun c_2 => ?_)
    · have hF := (if_pos c_2).symm.trans hF
      have c_2 : vw.toInt < 0 := il_lt c_2
      refine lv_iconst (v := (-1)) hx hb dX11_send_31 (by decide) ?_
      exact W.iret (v := (-1)) hx hb hr (fun t ht hW => ⟨⟨(-1), mu, rfl, ⟨hF.trans hfz.symm, ok, trivial, (fun _ _ _ => rfl)⟩, by first | (subst ht; exact hP) | (rw [ht]; exact hP) | (show va_P (dC, dI) vwCl (wR 157 ad (EX cs ad) mu) t.heap; rw [ht]; exact hP)⟩, hS.F ht⟩) hS.2.2 dX11_send_32
    · have hF := (if_neg c_2).symm.trans hF
      have c_2 : 0 ≤ vw.toInt := il_nlt c_2
      refine lv_iload_n hx hb dX11_send_13 rfl (lv_at hl 3 rfl) ?_
      refine lv_bipush (v := 99) hx hb dX11_send_14 (by decide) ?_
      refine lv_icmp_gt (tgt := 31) hx hb dX11_send_16 (by decide) (fun c_3 => ?_) (fun c_3 => ?_)
      · have hF := (if_pos c_3).symm.trans hF
        have c_3 : 99 < vw.toInt := il_lt c_3
        refine lv_iconst (v := (-1)) hx hb dX11_send_31 (by decide) ?_
        exact W.iret (v := (-1)) hx hb hr (fun t ht hW => ⟨⟨(-1), mu, rfl, ⟨hF.trans hfz.symm, ok, trivial, (fun _ _ _ => rfl)⟩, by first | (subst ht; exact hP) | (rw [ht]; exact hP) | (show va_P (dC, dI) vwCl (wR 157 ad (EX cs ad) mu) t.heap; rw [ht]; exact hP)⟩, hS.F ht⟩) hS.2.2 dX11_send_32
      · have hF := (if_neg c_3).symm.trans hF
        have c_3 : vw.toInt ≤ 99 := il_nlt c_3
        refine lv_iload hx hb dX11_send_19 (lv_at hl 4 rfl) ?_
        refine lv_if_lt (tgt := 31) hx hb dX11_send_21 (by decide) (fun c_4 => ?_) (fun c_4 => ?_)
        · have hF := (if_pos c_4).symm.trans hF
          have c_4 : vf.toInt < 0 := il_lt c_4
          refine lv_iconst (v := (-1)) hx hb dX11_send_31 (by decide) ?_
          exact W.iret (v := (-1)) hx hb hr (fun t ht hW => ⟨⟨(-1), mu, rfl, ⟨hF.trans hfz.symm, ok, trivial, (fun _ _ _ => rfl)⟩, by first | (subst ht; exact hP) | (rw [ht]; exact hP) | (show va_P (dC, dI) vwCl (wR 157 ad (EX cs ad) mu) t.heap; rw [ht]; exact hP)⟩, hS.F ht⟩) hS.2.2 dX11_send_32
        · have hF := (if_neg c_4).symm.trans hF
          have c_4 : 0 ≤ vf.toInt := il_nlt c_4
          refine lv_iload hx hb dX11_send_24 (lv_at hl 4 rfl) ?_
          refine lv_bipush (v := 9) hx hb dX11_send_26 (by decide) ?_
          refine lv_icmp_le (tgt := 33) hx hb dX11_send_28 (by decide) (fun c_5 => ?_) (fun c_5 => ?_)
          · have hF := (if_pos c_5).symm.trans hF
            have c_5 : vf.toInt ≤ 9 := il_le c_5
            refine lv_aload_n hx hb dX11_send_33 rfl (lv_at hl 0 rfl) ?_
            refine va_get (D := (dC, dI)) (ci := 11) (v := .ref (ad 4)) (C := RX11) (T := TX11) (N := 11) hx hb hts inG11 hown hK hP 0 (gX_0 cs ad mu) rfl 3 (by decide) (hts _ (List.mem_cons_of_mem _ mw_2_161)) (fun _ h9 => h9) rfl dX11_send_34 ?_
            refine va_get (D := (dC, dI)) (ci := 10) (v := .ref (ad 5)) (C := RX10) (T := TX10) (N := 8) hx hb hts inG10 hown hK hP 4 (gX_4 cs ad mu) rfl 3 (by decide) (hts _ (List.mem_cons_of_mem _ mw_1_157)) (fun _ h9 => h9) rfl dX11_send_37 ?_
            refine va_get (D := (dC, dI)) (ci := 8) (v := .int (mu 5 4)) (C := RX8) (T := TX8) (N := 6) hx hb hts inG8 hown hK hP 5 (gX_5 cs ad mu) rfl 4 (by decide) (hts _ (List.mem_cons_of_mem _ mw_1_128)) (fun _ h9 => h9) rfl dX11_send_40 ?_
            refine lv_topi (fun y6 ey6 => ?_)
            have hF := mi_let hF ey6
            have by6 : y6.toInt = (mu 5 4).toInt := congrArg Int32.toInt ey6
            have gy6 : 0 ≤ y6.toInt ∧ y6.toInt ≤ 4 := by rw [ey6]; exact rX_5_4 ok
            refine lv_istore (lv' := [(5, .int y6), (0, .ref (ad 0)), (1, .int vx), (2, .int vy), (3, .int vw), (4, .int vf)]) hx hb dX11_send_43 hl (by decide) rfl (fun ls hl => ?_)
            refine lv_iload hx hb dX11_send_45 (lv_at hl 0 rfl) ?_
            refine lv_iconst (v := 4) hx hb dX11_send_47 (by decide) ?_
            refine lv_icmp_lt (tgt := 54) hx hb dX11_send_48 (by decide) (fun c_7 => ?_) (fun c_7 => ?_)
            · have hF := (if_pos c_7).symm.trans hF
              have c_7 : y6.toInt < 4 := il_lt c_7
              refine lv_aload_n hx hb dX11_send_54 rfl (lv_at hl 1 rfl) ?_
              refine va_get (D := (dC, dI)) (ci := 11) (v := .ref (ad 4)) (C := RX11) (T := TX11) (N := 11) hx hb hts inG11 hown hK hP 0 (gX_0 cs ad mu) rfl 3 (by decide) (hts _ (List.mem_cons_of_mem _ mw_2_161)) (fun _ h9 => h9) rfl dX11_send_55 ?_
              refine va_get (D := (dC, dI)) (ci := 10) (v := .ref (ad 5)) (C := RX10) (T := TX10) (N := 8) hx hb hts inG10 hown hK hP 4 (gX_4 cs ad mu) rfl 3 (by decide) (hts _ (List.mem_cons_of_mem _ mw_1_157)) (fun _ h9 => h9) rfl dX11_send_58 ?_
              refine va_get (D := (dC, dI)) (ci := 8) (v := .ref (ad 47)) (C := RX8) (T := TX8) (N := 6) hx hb hts inG8 hown hK hP 5 (gX_5 cs ad mu) rfl 1 (by decide) (hts _ (List.mem_cons_of_mem _ mw_1_112)) (fun _ h9 => h9) rfl dX11_send_61 ?_
              refine lv_iload hx hb dX11_send_64 (lv_at hl 0 rfl) ?_
              have hx8 : 0 ≤ y6.toInt ∧ y6.toInt < ((4 : Nat) : Int) := ⟨by omega, by omega⟩
              refine va_aldq hx hb hK hP 47 5 (gX_47 cs ad mu) rfl (show vp_in y6 4 from vi_of hx8.1 hx8.2) dX11_send_66 ?_
              have hk8 : 61 ≤ (61 + y6.toNatClampNeg) ∧ (61 + y6.toNatClampNeg) < 65 := ix_of hx8
              have hk8 : 61 ≤ (61 + y6.toNatClampNeg) ∧ (61 + y6.toNatClampNeg) < 77 := ⟨Nat.le_trans (by decide) hk8.1, Nat.lt_of_lt_of_le hk8.2 (by decide)⟩
              refine lq_v (.ref (ad (61 + y6.toNatClampNeg))) rfl ?_
              refine lv_iload_n hx hb dX11_send_67 rfl (lv_at hl 2 rfl) ?_
              refine lv_iload_n hx hb dX11_send_68 rfl (lv_at hl 3 rfl) ?_
              refine lv_iload_n hx hb dX11_send_69 rfl (lv_at hl 4 rfl) ?_
              refine lv_iload hx hb dX11_send_70 (lv_at hl 5 rfl) ?_
              refine lv_aload_n hx hb dX11_send_72 rfl (lv_at hl 1 rfl) ?_
              refine va_get (D := (dC, dI)) (ci := 11) (v := .ref (ad 4)) (C := RX11) (T := TX11) (N := 11) hx hb hts inG11 hown hK hP 0 (gX_0 cs ad mu) rfl 3 (by decide) (hts _ (List.mem_cons_of_mem _ mw_2_161)) (fun _ h9 => h9) rfl dX11_send_73 ?_
              refine va_get (D := (dC, dI)) (ci := 10) (v := .ref (ad 5)) (C := RX10) (T := TX10) (N := 8) hx hb hts inG10 hown hK hP 4 (gX_4 cs ad mu) rfl 3 (by decide) (hts _ (List.mem_cons_of_mem _ mw_1_157)) (fun _ h9 => h9) rfl dX11_send_76 ?_
              refine va_get (D := (dC, dI)) (ci := 8) (v := .int (mu 5 3)) (C := RX8) (T := TX8) (N := 6) hx hb hts inG8 hown hK hP 5 (gX_5 cs ad mu) rfl 3 (by decide) (hts _ (List.mem_cons_of_mem _ mw_1_124)) (fun _ h9 => h9) rfl dX11_send_79 ?_
              refine lv_topi (fun y9 ey9 => ?_)
              have hF := mi_let hF ey9
              have by9 : y9.toInt = (mu 5 3).toInt := congrArg Int32.toInt ey9
              have hFc := fr_all (wR_D mu hD) hS hA
              refine va_callv (va_runV (As := [.int vx, .int vy, .int vw, .int vf, .int y9]) (rest := []) ⟨hx, hb, hml, hown, hts⟩ (sx_begin l dC dI cs ad mu ok s.heap hP ((wR_D mu hD).weaken (fun _ _ _ _ => trivial)) (61 + y6.toNatClampNeg) hk8.1 hk8.2 vx vy vw vf y9 (by omega)) (cwV 5 hts (wU_V mw_3_149 mw_3_146 mw_3_147 mw_3_148 mw_1_4) rfl rfl rfl (by decide +kernel) ⟨Nat.le_of_ble_eq_true rfl, Nat.le_of_ble_eq_true rfl⟩) ⟨sz_c, va_recv hK hP (ci := 3) (q0 := (61 + y6.toNatClampNeg)) rfl (gX_letter cs ad mu (61 + y6.toNatClampNeg) hk8.1 hk8.2), sz_m hK hz⟩ rfl rfl hl.1 rfl (lv_room (Nat.le_of_ble_eq_true rfl)) dX11_send_82 ⟨Nat.zero_le _, Nat.zero_le _⟩) hS (fun q _ h => hFc q h) hFc (fun xi10 t H10 locs ht hvm hw10 hB hz1 hk1 hS => ?_)
              have hP : va_P (dC, dI) vwCl (wR 157 ad (EX cs ad) xi10) H10 := by rw [← ht]; exact hB
              obtain ⟨hfe10, ok, hw10, hkp10_0⟩ := hw10
              have hF := mi_let hF hfe10
              have kp11 : (∀ k f : Nat, Nat.testBit 246 (gpX k f) = true → xi10 k f = mu k f) := kp_t hkp10_0 (by decide) (fun _ _ _ => rfl)
              refine lv_aload_n hx hb dX11_send_85 rfl (lv_at hl 1 rfl) ?_
              refine va_get (D := (dC, dI)) (ci := 11) (v := .ref (ad 4)) (C := RX11) (T := TX11) (N := 11) hx hb hts inG11 hown hK hP 0 (gX_0 cs ad xi10) rfl 3 (by decide) (hts _ (List.mem_cons_of_mem _ mw_2_161)) (fun _ h9 => h9) rfl dX11_send_86 ?_
              refine va_get (D := (dC, dI)) (ci := 10) (v := .ref (ad 5)) (C := RX10) (T := TX10) (N := 8) hx hb hts inG10 hown hK hP 4 (gX_4 cs ad xi10) rfl 3 (by decide) (hts _ (List.mem_cons_of_mem _ mw_1_157)) (fun _ h9 => h9) rfl dX11_send_89 ?_
              refine lv_iload hx hb dX11_send_92 (lv_at hl 0 rfl) ?_
              refine lv_iconst (v := 1) hx hb dX11_send_94 (by decide) ?_
              refine lv_iadd hx hb dX11_send_95 ?_
              refine lv_topi (fun t12 et12 => ?_)
              have hF := mi_let hF et12
              have at12 : t12.toInt = y6.toInt + 1 := by rw [et12]; exact tI_add (rfl : y6.toInt = _) (rfl : (1 : Int32).toInt = 1) (by omega) (by omega)
              refine va_put (D := (dC, dI)) (ci := 8) (v := .int t12) (ty := .int) (C := RX8) (T := TX8) (N := 6) hx hb hts inG8 tyX8 tyX8_ok nmX8 hown hK hP (wR_D xi10 hD) hS 5 (gX_5 cs ad xi10) rfl 4 (by decide) (hts _ (List.mem_cons_of_mem _ mw_1_128)) (fun _ h9 => h9) rfl (by decide +kernel) rfl rfl (Nat.le_of_ble_eq_true rfl) dX11_send_96 (fun H locs hP _ hS => ?_)
              simp only [List.set_cons_succ, List.set_cons_zero] at hP
              refine wr_gen (upd (xi10 5) 4 t12) hP ((hX_5_4 cs ad _ _)) (fun nu13 hn13 hP => ?_)
              have hF := mi_let hF hn13.symm
              have ok := tX_5_4 ok hn13 (by exact ⟨by omega, by omega⟩)
              have kp14 : (∀ k f : Nat, Nat.testBit 246 (gpX k f) = true → nu13 k f = mu k f) := kp_f hn13 (by decide) kp11
              have ez15 : t12 = nu13 5 4 := up_v hn13
              refine lv_iload hx hb dX11_send_99 (lv_at hl 0 rfl) ?_
              exact W.iret (v := y6) hx hb hr (fun t ht hW => ⟨⟨y6, nu13, rfl, ⟨hF.trans hfz.symm, ok, trivial, kp14⟩, by first | (subst ht; exact hP) | (rw [ht]; exact hP) | (show va_P (dC, dI) vwCl (wR 157 ad (EX cs ad) nu13) t.heap; rw [ht]; exact hP)⟩, hS.F ht⟩) hS.2.2 dX11_send_101
            · have hF := (if_neg c_7).symm.trans hF
              have c_7 : 4 ≤ y6.toInt := il_nlt c_7
              refine lv_bipush (v := (-2)) hx hb dX11_send_51 (by decide) ?_
              exact W.iret (v := (-2)) hx hb hr (fun t ht hW => ⟨⟨(-2), mu, rfl, ⟨hF.trans hfz.symm, ok, trivial, (fun _ _ _ => rfl)⟩, by first | (subst ht; exact hP) | (rw [ht]; exact hP) | (show va_P (dC, dI) vwCl (wR 157 ad (EX cs ad) mu) t.heap; rw [ht]; exact hP)⟩, hS.F ht⟩) hS.2.2 dX11_send_53
          · have hF := (if_neg c_5).symm.trans hF
            have c_5 : 9 < vf.toInt := il_nle c_5
            refine lv_iconst (v := (-1)) hx hb dX11_send_31 (by decide) ?_
            exact W.iret (v := (-1)) hx hb hr (fun t ht hW => ⟨⟨(-1), mu, rfl, ⟨hF.trans hfz.symm, ok, trivial, (fun _ _ _ => rfl)⟩, by first | (subst ht; exact hP) | (rw [ht]; exact hP) | (show va_P (dC, dI) vwCl (wR 157 ad (EX cs ad) mu) t.heap; rw [ht]; exact hP)⟩, hS.F ht⟩) hS.2.2 dX11_send_32
  · have hF := (if_neg (fun h => absurd (hfe1.trans h) (by decide))).symm.trans hF
    have f1 : True := f1
    refine lv_if_eq (tgt := 31) hx hb dX11_send_6 (by decide) (fun _ => ?_) (fun c => absurd (by decide) c)
    refine lv_iconst (v := (-1)) hx hb dX11_send_31 (by decide) ?_
    exact W.iret (v := (-1)) hx hb hr (fun t ht hW => ⟨⟨(-1), mu, rfl, ⟨hF.trans hfz.symm, ok, trivial, (fun _ _ _ => rfl)⟩, by first | (subst ht; exact hP) | (rw [ht]; exact hP) | (show va_P (dC, dI) vwCl (wR 157 ad (EX cs ad) mu) t.heap; rw [ht]; exact hP)⟩, hS.F ht⟩) hS.2.2 dX11_send_32
