set_option maxHeartbeats 4000000 in
set_option maxRecDepth 100000 in
/-- qx_send -/
theorem qx_send (l : Launch) (dC : Nat → ClassId) (dI : Nat → Nat → Nat) (cs : Nat → ClassId) (ad : Nat → Nat) (mu : Nat → Nat → Int32) (ok : okR loX hiX mu) (H : Heap) (hP : va_P (dC, dI) vwCl (wR 157 ad (EX cs ad) mu) H) (hD0 : va_D (fun _ => True) (wR 157 ad (EX cs ad) mu)) (vx : Int32) (vy : Int32) (vw : Int32) (vf : Int32) : Met l yX11_send (wU yX11_send cX11_send 6 (some .int)) ({ frames := 2, cells := 0, slots := 0, locals := 43 }) (va_Pc [.ref (ad 0), .int vx, .int vy, .int vw, .int vf] (sz_P (dC, dI) vwCl (tyW cs) H)) (va_Qi (fun (z : Int32) (xi : Nat → Nat → Int32) => (z, xi) = F_qx_send mu vx vy vw vf ∧ okR loX hiX xi ∧ (True) ∧ (∀ k f : Nat, Nat.testBit 246 (gpX k f) = true → xi k f = mu k f)) (fun xi t => va_P (dC, dI) vwCl (wR 157 ad (EX cs ad) xi) t.heap) (va_A (wR 157 ad (EX cs ad) mu) H.size)) 0 0 (va_A (wR 157 ad (EX cs ad) mu) H.size) := by
  refine Met.ofW (cc := cX11_send) (maxL := 6) (ret := (some .int)) (by decide) rfl ?_
  intro p e s m args below meth c s₁ B hml hv
  obtain ⟨rfl, hh, hK, hz⟩ := hv
  have hx := B.exec
  have hb := B.bytes
  have hr := B.returns
  have hts := atoms_spec (ws := (wU yX11_send cX11_send 6 (some .int))) B.pre
  have hown : s.vm.findClass RX11 = some m.cls := findClass_of_methodNamed B.named
  have hlocks := B.notSynchronized
  subst hh
  have hD := hD0.self (sz := s.heap.size)
  have hA : ∀ q : Nat, s.heap.size ≤ q → (va_A (wR 157 ad (EX cs ad) mu) s.heap.size) q := fun q h => Or.inr h
  have hS : va_S (va_A (wR 157 ad (EX cs ad) mu) s.heap.size) s.heap s.heap [] := va_S.rf
  have hl := lv_entry ([.ref (ad 0), .int vx, .int vy, .int vw, .int vf]) (n := 6) (Nat.le_of_ble_eq_true rfl)
  rw [lg_entry_eq]
  generalize (lg_sl ([.ref (ad 0), .int vx, .int vy, .int vw, .int vf]) ++ List.replicate (6 - (lg_sl ([.ref (ad 0), .int vx, .int vy, .int vw, .int vf])).length) Slot.unset).toArray = ls at hl ⊢
  have hl : lv_has ls 6 [(0, .ref (ad 0)), (1, .int vx), (2, .int vy), (3, .int vw), (4, .int vf)] := hl
  obtain ⟨fz, hfz⟩ : ∃ z, F_qx_send mu vx vy vw vf = z := ⟨_, rfl⟩
  have hF := hfz
  unfold F_qx_send at hF
  refine lv_aload_n hx hb dX11_send_0 rfl (lv_at hl 0 rfl) ?_
  refine lv_iload_n hx hb dX11_send_1 rfl (lv_at hl 1 rfl) ?_
  refine lv_iload_n hx hb dX11_send_2 rfl (lv_at hl 2 rfl) ?_
  refine cr_i (va_runV (As := [.int vx, .int vy]) (rest := []) ⟨hx, hb, hml, hown, hts⟩ (sx_isPair l dC dI cs ad mu ok s.heap hP vx vy) (cwV 2 hts (wU_V mw_3_145 mw_3_142 mw_3_144 mw_0_7 mw_1_1) rfl rfl rfl (by decide +kernel) ⟨Nat.le_of_ble_eq_true rfl, Nat.le_of_ble_eq_true rfl⟩) ⟨sz_c, va_recv hK hP (ci := 11) (q0 := 0) rfl (gX_0 cs ad mu), sz_m hK hz⟩ rfl rfl hl.1 rfl (lv_room (Nat.le_of_ble_eq_true rfl)) dX11_send_3 ⟨Nat.zero_le _, Nat.zero_le _⟩) hS (fun r1 hw1 locs hS => ?_)
  obtain ⟨hfe1, hw1⟩ := hw1
  rcases hw1 with ⟨rfl, f1⟩ | ⟨rfl, f1⟩
  · have hF := (if_pos hfe1.symm).symm.trans hF
    have f1 : 0 ≤ vx.toInt ∧ vx.toInt < (mu 4 6).toInt ∧ 0 ≤ vy.toInt ∧ vy.toInt < (mu 4 6).toInt ∧ (mu 4 6).toInt ≤ 7 := f1
    refine lv_if_eq (tgt := 31) hx hb dX11_send_6 (by decide) (fun c => absurd c (by decide)) (fun _ => ?_)
    refine lv_iload_n hx hb dX11_send_9 rfl (lv_at hl 3 rfl) ?_
    refine lv_if_lt (tgt := 31) hx hb dX11_send_10 (by decide) (fun c_2 => ?_) (fun c_2 => ?_)
    · have hF := (if_pos c_2).symm.trans hF
      have c_2 : vw.toInt < 0 := il_lt c_2
      refine lv_iconst (v := (-1)) hx hb dX11_send_31 (by decide) ?_
      exact W.iret (v := (-1)) hx hb hr (fun t ht hW => ⟨⟨(-1), mu, rfl, ⟨hF.trans hfz.symm, ok, trivial, (fun _ _ _ => rfl)⟩, by first | (subst ht; exact hP) | (rw [ht]; exact hP) | (show va_P (dC, dI) vwCl (wR 157 ad (EX cs ad) mu) t.heap; rw [ht]; exact hP)⟩, hS.F ht⟩) hS.2.2 dX11_send_32
    · have hF := (if_neg c_2).symm.trans hF
      have c_2 : 0 ≤ vw.toInt := il_nlt c_2
      refine lv_iload_n hx hb dX11_send_13 rfl (lv_at hl 3 rfl) ?_
      refine lv_bipush (v := 99) hx hb dX11_send_14 (by decide) ?_
      refine lv_icmp_gt (tgt := 31) hx hb dX11_send_16 (by decide) (fun c_3 => ?_) (fun c_3 => ?_)
      · have hF := (if_pos c_3).symm.trans hF
        have c_3 : 99 < vw.toInt := il_lt c_3
        refine lv_iconst (v := (-1)) hx hb dX11_send_31 (by decide) ?_
        exact W.iret (v := (-1)) hx hb hr (fun t ht hW => ⟨⟨(-1), mu, rfl, ⟨hF.trans hfz.symm, ok, trivial, (fun _ _ _ => rfl)⟩, by first | (subst ht; exact hP) | (rw [ht]; exact hP) | (show va_P (dC, dI) vwCl (wR 157 ad (EX cs ad) mu) t.heap; rw [ht]; exact hP)⟩, hS.F ht⟩) hS.2.2 dX11_send_32
      · have hF := (if_neg c_3).symm.trans hF
        have c_3 : vw.toInt ≤ 99 := il_nlt c_3
        refine lv_iload hx hb dX11_send_19 (lv_at hl 4 rfl) ?_
        refine lv_if_lt (tgt := 31) hx hb dX11_send_21 (by decide) (fun c_4 => ?_) (fun c_4 => ?_)
        · have hF := (if_pos c_4).symm.trans hF
          have c_4 : vf.toInt < 0 := il_lt c_4
          refine lv_iconst (v := (-1)) hx hb dX11_send_31 (by decide) ?_
          exact W.iret (v := (-1)) hx hb hr (fun t ht hW => ⟨⟨(-1), mu, rfl, ⟨hF.trans hfz.symm, ok, trivial, (fun _ _ _ => rfl)⟩, by first | (subst ht; exact hP) | (rw [ht]; exact hP) | (show va_P (dC, dI) vwCl (wR 157 ad (EX cs ad) mu) t.heap; rw [ht]; exact hP)⟩, hS.F ht⟩) hS.2.2 dX11_send_32
        · have hF := (if_neg c_4).symm.trans hF
          have c_4 : 0 ≤ vf.toInt := il_nlt c_4
          refine lv_iload hx hb dX11_send_24 (lv_at hl 4 rfl) ?_
          refine lv_bipush (v := 9) hx hb dX11_send_26 (by decide) ?_
          refine lv_icmp_le (tgt := 33) hx hb dX11_send_28 (by decide) (fun c_5 => ?_) (fun c_5 => ?_)
          · have hF := (if_pos c_5).symm.trans hF
            have c_5 : vf.toInt ≤ 9 := il_le c_5
            refine lv_aload_n hx hb dX11_send_33 rfl (lv_at hl 0 rfl) ?_
            refine va_get (D := (dC, dI)) (ci := 11) (v := .ref (ad 4)) (C := RX11) (T := TX11) (N := 11) hx hb hts inG11 hown hK hP 0 (gX_0 cs ad mu) rfl 3 (by decide) (hts _ (List.mem_cons_of_mem _ mw_2_161)) (fun _ h9 => h9) rfl dX11_send_34 ?_
            refine va_get (D := (dC, dI)) (ci := 10) (v := .ref (ad 5)) (C := RX10) (T := TX10) (N := 8) hx hb hts inG10 hown hK hP 4 (gX_4 cs ad mu) rfl 3 (by decide) (hts _ (List.mem_cons_of_mem _ mw_1_157)) (fun _ h9 => h9) rfl dX11_send_37 ?_
            refine va_get (D := (dC, dI)) (ci := 8) (v := .int (mu 5 4)) (C := RX8) (T := TX8) (N := 6) hx hb hts inG8 hown hK hP 5 (gX_5 cs ad mu) rfl 4 (by decide) (hts _ (List.mem_cons_of_mem _ mw_1_128)) (fun _ h9 => h9) rfl dX11_send_40 ?_
            refine lv_topi (fun y6 ey6 => ?_)
            have hF := mi_let hF ey6
            have by6 : y6.toInt = (mu 5 4).toInt := congrArg Int32.toInt ey6
            have gy6 : 0 ≤ y6.toInt ∧ y6.toInt ≤ 4 := by rw [ey6]; exact rX_5_4 ok
            refine lv_istore (lv' := [(5, .int y6), (0, .ref (ad 0)), (1, .int vx), (2, .int vy), (3, .int vw), (4, .int vf)]) hx hb dX11_send_43 hl (by decide) rfl (fun ls hl => ?_)
            refine lv_iload hx hb dX11_send_45 (lv_at hl 0 rfl) ?_
            refine lv_iconst (v := 4) hx hb dX11_send_47 (by decide) ?_
            refine lv_icmp_lt (tgt := 54) hx hb dX11_send_48 (by decide) (fun c_7 => ?_) (fun c_7 => ?_)
            · have hF := (if_pos c_7).symm.trans hF
              have c_7 : y6.toInt < 4 := il_lt c_7
              refine lv_aload_n hx hb dX11_send_54 rfl (lv_at hl 1 rfl) ?_
              refine va_get (D := (dC, dI)) (ci := 11) (v := .ref (ad 4)) (C := RX11) (T := TX11) (N := 11) hx hb hts inG11 hown hK hP 0 (gX_0 cs ad mu) rfl 3 (by decide) (hts _ (List.mem_cons_of_mem _ mw_2_161)) (fun _ h9 => h9) rfl dX11_send_55 ?_
              refine va_get (D := (dC, dI)) (ci := 10) (v := .ref (ad 5)) (C := RX10) (T := TX10) (N := 8) hx hb hts inG10 hown hK hP 4 (gX_4 cs ad mu) rfl 3 (by decide) (hts _ (List.mem_cons_of_mem _ mw_1_157)) (fun _ h9 => h9) rfl dX11_send_58 ?_
              refine va_get (D := (dC, dI)) (ci := 8) (v := .ref (ad 47)) (C := RX8) (T := TX8) (N := 6) hx hb hts inG8 hown hK hP 5 (gX_5 cs ad mu) rfl 1 (by decide) (hts _ (List.mem_cons_of_mem _ mw_1_112)) (fun _ h9 => h9) rfl dX11_send_61 ?_
              refine lv_iload hx hb dX11_send_64 (lv_at hl 0 rfl) ?_
              have hx8 : 0 ≤ y6.toInt ∧ y6.toInt < ((4 : Nat) : Int) := ⟨by omega, by omega⟩
              refine va_aldq hx hb hK hP 47 5 (gX_47 cs ad mu) rfl (show vp_in y6 4 from vi_of hx8.1 hx8.2) dX11_send_66 ?_
              have hk8 : 61 ≤ (61 + y6.toNatClampNeg) ∧ (61 + y6.toNatClampNeg) < 65 := ix_of hx8
              have hk8 : 61 ≤ (61 + y6.toNatClampNeg) ∧ (61 + y6.toNatClampNeg) < 77 := ⟨Nat.le_trans (by decide) hk8.1, Nat.lt_of_lt_of_le hk8.2 (by decide)⟩
              refine lq_v (.ref (ad (61 + y6.toNatClampNeg))) rfl ?_
              refine lv_iload_n hx hb dX11_send_67 rfl (lv_at hl 2 rfl) ?_
              refine lv_iload_n hx hb dX11_send_68 rfl (lv_at hl 3 rfl) ?_
              refine lv_iload_n hx hb dX11_send_69 rfl (lv_at hl 4 rfl) ?_
              refine lv_iload hx hb dX11_send_70 (lv_at hl 5 rfl) ?_
              refine lv_aload_n hx hb dX11_send_72 rfl (lv_at hl 1 rfl) ?_
              refine va_get (D := (dC, dI)) (ci := 11) (v := .ref (ad 4)) (C := RX11) (T := TX11) (N := 11) hx hb hts inG11 hown hK hP 0 (gX_0 cs ad mu) rfl 3 (by decide) (hts _ (List.mem_cons_of_mem _ mw_2_161)) (fun _ h9 => h9) rfl dX11_send_73 ?_
              refine va_get (D := (dC, dI)) (ci := 10) (v := .ref (ad 5)) (C := RX10) (T := TX10) (N := 8) hx hb hts inG10 hown hK hP 4 (gX_4 cs ad mu) rfl 3 (by decide) (hts _ (List.mem_cons_of_mem _ mw_1_157)) (fun _ h9 => h9) rfl dX11_send_76 ?_
              refine va_get (D := (dC, dI)) (ci := 8) (v := .int (mu 5 3)) (C := RX8) (T := TX8) (N := 6) hx hb hts inG8 hown hK hP 5 (gX_5 cs ad mu) rfl 3 (by decide) (hts _ (List.mem_cons_of_mem _ mw_1_124)) (fun _ h9 => h9) rfl dX11_send_79 ?_
              refine lv_topi (fun y9 ey9 => ?_)
              have hF := mi_let hF ey9
              have by9 : y9.toInt = (mu 5 3).toInt := congrArg Int32.toInt ey9
              have hFc := fr_all (wR_D mu hD) hS hA
              refine va_callv (va_runV (As := [.int vx, .int vy, .int vw, .int vf, .int y9]) (rest := []) ⟨hx, hb, hml, hown, hts⟩ (sx_begin l dC dI cs ad mu ok s.heap hP ((wR_D mu hD).weaken (fun _ _ _ _ => trivial)) (61 + y6.toNatClampNeg) hk8.1 hk8.2 vx vy vw vf y9 (by omega)) (cwV 5 hts (wU_V mw_3_149 mw_3_146 mw_3_147 mw_3_148 mw_1_4) rfl rfl rfl (by decide +kernel) ⟨Nat.le_of_ble_eq_true rfl, Nat.le_of_ble_eq_true rfl⟩) ⟨sz_c, va_recv hK hP (ci := 3) (q0 := (61 + y6.toNatClampNeg)) rfl (gX_letter cs ad mu (61 + y6.toNatClampNeg) hk8.1 hk8.2), sz_m hK hz⟩ rfl rfl hl.1 rfl (lv_room (Nat.le_of_ble_eq_true rfl)) dX11_send_82 ⟨Nat.zero_le _, Nat.zero_le _⟩) hS (fun q _ h => hFc q h) hFc (fun xi10 t H10 locs ht hvm hw10 hB hz1 hk1 hS => ?_)
              have hP : va_P (dC, dI) vwCl (wR 157 ad (EX cs ad) xi10) H10 := by rw [← ht]; exact hB
              obtain ⟨hfe10, ok, hw10, hkp10_0⟩ := hw10
              have hF := mi_let hF hfe10
              have kp11 : (∀ k f : Nat, Nat.testBit 246 (gpX k f) = true → xi10 k f = mu k f) := kp_t hkp10_0 (by decide) (fun _ _ _ => rfl)
              refine lv_aload_n hx hb dX11_send_85 rfl (lv_at hl 1 rfl) ?_
              refine va_get (D := (dC, dI)) (ci := 11) (v := .ref (ad 4)) (C := RX11) (T := TX11) (N := 11) hx hb hts inG11 hown hK hP 0 (gX_0 cs ad xi10) rfl 3 (by decide) (hts _ (List.mem_cons_of_mem _ mw_2_161)) (fun _ h9 => h9) rfl dX11_send_86 ?_
              refine va_get (D := (dC, dI)) (ci := 10) (v := .ref (ad 5)) (C := RX10) (T := TX10) (N := 8) hx hb hts inG10 hown hK hP 4 (gX_4 cs ad xi10) rfl 3 (by decide) (hts _ (List.mem_cons_of_mem _ mw_1_157)) (fun _ h9 => h9) rfl dX11_send_89 ?_
              refine lv_iload hx hb dX11_send_92 (lv_at hl 0 rfl) ?_
              refine lv_iconst (v := 1) hx hb dX11_send_94 (by decide) ?_
              refine lv_iadd hx hb dX11_send_95 ?_
              refine lv_topi (fun t12 et12 => ?_)
              have hF := mi_let hF et12
              have at12 : t12.toInt = y6.toInt + 1 := by rw [et12]; exact va1 (by omega)
              refine va_put (D := (dC, dI)) (ci := 8) (v := .int t12) (ty := .int) (C := RX8) (T := TX8) (N := 6) hx hb hts inG8 tyX8 tyX8_ok nmX8 hown hK hP (wR_D xi10 hD) hS 5 (gX_5 cs ad xi10) rfl 4 (by decide) (hts _ (List.mem_cons_of_mem _ mw_1_128)) (fun _ h9 => h9) rfl (by decide +kernel) rfl rfl (Nat.le_of_ble_eq_true rfl) dX11_send_96 (fun H locs hP _ hS => ?_)
              simp only [List.set_cons_succ, List.set_cons_zero] at hP
              refine wr_gen (upd (xi10 5) 4 t12) hP ((hX_5_4 cs ad _ _)) (fun nu13 hn13 hP => ?_)
              have hF := mi_let hF hn13.symm
              have ok := tX_5_4 ok hn13 (by omega)
              have kp14 : (∀ k f : Nat, Nat.testBit 246 (gpX k f) = true → nu13 k f = mu k f) := kp_f hn13 (by decide) kp11
              have ez15 : t12 = nu13 5 4 := up_v hn13
              refine lv_iload hx hb dX11_send_99 (lv_at hl 0 rfl) ?_
              exact W.iret (v := y6) hx hb hr (fun t ht hW => ⟨⟨y6, nu13, rfl, ⟨hF.trans hfz.symm, ok, trivial, kp14⟩, by first | (subst ht; exact hP) | (rw [ht]; exact hP) | (show va_P (dC, dI) vwCl (wR 157 ad (EX cs ad) nu13) t.heap; rw [ht]; exact hP)⟩, hS.F ht⟩) hS.2.2 dX11_send_101
            · have hF := (if_neg c_7).symm.trans hF
              have c_7 : 4 ≤ y6.toInt := il_nlt c_7
              refine lv_bipush (v := (-2)) hx hb dX11_send_51 (by decide) ?_
              exact W.iret (v := (-2)) hx hb hr (fun t ht hW => ⟨⟨(-2), mu, rfl, ⟨hF.trans hfz.symm, ok, trivial, (fun _ _ _ => rfl)⟩, by first | (subst ht; exact hP) | (rw [ht]; exact hP) | (show va_P (dC, dI) vwCl (wR 157 ad (EX cs ad) mu) t.heap; rw [ht]; exact hP)⟩, hS.F ht⟩) hS.2.2 dX11_send_53
          · have hF := (if_neg c_5).symm.trans hF
            have c_5 : 9 < vf.toInt := il_nle c_5
            refine lv_iconst (v := (-1)) hx hb dX11_send_31 (by decide) ?_
            exact W.iret (v := (-1)) hx hb hr (fun t ht hW => ⟨⟨(-1), mu, rfl, ⟨hF.trans hfz.symm, ok, trivial, (fun _ _ _ => rfl)⟩, by first | (subst ht; exact hP) | (rw [ht]; exact hP) | (show va_P (dC, dI) vwCl (wR 157 ad (EX cs ad) mu) t.heap; rw [ht]; exact hP)⟩, hS.F ht⟩) hS.2.2 dX11_send_32
  · have hF := (if_neg (fun h => absurd (hfe1.trans h) (by decide))).symm.trans hF
    have f1 : True := f1
    refine lv_if_eq (tgt := 31) hx hb dX11_send_6 (by decide) (fun _ => ?_) (fun c => absurd (by decide) c)
    refine lv_iconst (v := (-1)) hx hb dX11_send_31 (by decide) ?_
    exact W.iret (v := (-1)) hx hb hr (fun t ht hW => ⟨⟨(-1), mu, rfl, ⟨hF.trans hfz.symm, ok, trivial, (fun _ _ _ => rfl)⟩, by first | (subst ht; exact hP) | (rw [ht]; exact hP) | (show va_P (dC, dI) vwCl (wR 157 ad (EX cs ad) mu) t.heap; rw [ht]; exact hP)⟩, hS.F ht⟩) hS.2.2 dX11_send_32
set_option maxHeartbeats 4000000 in
set_option maxRecDepth 100000 in
/-- qx_sell -/
theorem qx_sell (l : Launch) (dC : Nat → ClassId) (dI : Nat → Nat → Nat) (cs : Nat → ClassId) (ad : Nat → Nat) (mu : Nat → Nat → Int32) (ok : okR loX hiX mu) (H : Heap) (hP : va_P (dC, dI) vwCl (wR 157 ad (EX cs ad) mu) H) (hD0 : va_D (fun _ => True) (wR 157 ad (EX cs ad) mu)) (vk : Int32) (vx : Int32) : Met l yX11_sell (wU yX11_sell cX11_sell 6 (some .int)) ({ frames := 3, cells := 0, slots := 0, locals := 86 }) (va_Pc [.ref (ad 0), .int vk, .int vx] (sz_P (dC, dI) vwCl (tyW cs) H)) (va_Qi (fun (z : Int32) (xi : Nat → Nat → Int32) => (z, xi) = F_qx_sell mu vk vx ∧ okR loX hiX xi ∧ (True) ∧ (∀ k f : Nat, Nat.testBit 486 (gpX k f) = true → xi k f = mu k f)) (fun xi t => va_P (dC, dI) vwCl (wR 157 ad (EX cs ad) xi) t.heap) (va_A (wR 157 ad (EX cs ad) mu) H.size)) 0 0 (va_A (wR 157 ad (EX cs ad) mu) H.size) := by
  refine Met.ofW (cc := cX11_sell) (maxL := 6) (ret := (some .int)) (by decide) rfl ?_
  intro p e s m args below meth c s₁ B hml hv
  obtain ⟨rfl, hh, hK, hz⟩ := hv
  have hx := B.exec
  have hb := B.bytes
  have hr := B.returns
  have hts := atoms_spec (ws := (wU yX11_sell cX11_sell 6 (some .int))) B.pre
  have hown : s.vm.findClass RX11 = some m.cls := findClass_of_methodNamed B.named
  have hlocks := B.notSynchronized
  subst hh
  have hD := hD0.self (sz := s.heap.size)
  have hA : ∀ q : Nat, s.heap.size ≤ q → (va_A (wR 157 ad (EX cs ad) mu) s.heap.size) q := fun q h => Or.inr h
  have hS : va_S (va_A (wR 157 ad (EX cs ad) mu) s.heap.size) s.heap s.heap [] := va_S.rf
  have hl := lv_entry ([.ref (ad 0), .int vk, .int vx]) (n := 6) (Nat.le_of_ble_eq_true rfl)
  rw [lg_entry_eq]
  generalize (lg_sl ([.ref (ad 0), .int vk, .int vx]) ++ List.replicate (6 - (lg_sl ([.ref (ad 0), .int vk, .int vx])).length) Slot.unset).toArray = ls at hl ⊢
  have hl : lv_has ls 6 [(0, .ref (ad 0)), (1, .int vk), (2, .int vx)] := hl
  obtain ⟨fz, hfz⟩ : ∃ z, F_qx_sell mu vk vx = z := ⟨_, rfl⟩
  have hF := hfz
  unfold F_qx_sell at hF
  refine lv_aload_n hx hb dX11_sell_0 rfl (lv_at hl 0 rfl) ?_
  refine lv_iload_n hx hb dX11_sell_1 rfl (lv_at hl 1 rfl) ?_
  refine lv_aload_n hx hb dX11_sell_2 rfl (lv_at hl 0 rfl) ?_
  refine va_get (D := (dC, dI)) (ci := 11) (v := .ref (ad 4)) (C := RX11) (T := TX11) (N := 11) hx hb hts inG11 hown hK hP 0 (gX_0 cs ad mu) rfl 3 (by decide) (hts _ (List.mem_cons_of_mem _ mw_2_161)) (fun _ h9 => h9) rfl dX11_sell_3 ?_
  refine lv_iload_n hx hb dX11_sell_6 rfl (lv_at hl 2 rfl) ?_
  refine cr_i (va_runV (As := [.int vx]) (rest := [.int vk, .ref (ad 0)]) ⟨hx, hb, hml, hown, hts⟩ (sx_has l dC dI cs ad mu ok s.heap hP vx) (cwV 1 hts (wU_V mw_3_76 mw_3_73 mw_3_74 mw_3_75 mw_1_2) rfl rfl rfl (by decide +kernel) ⟨Nat.le_of_ble_eq_true rfl, Nat.le_of_ble_eq_true rfl⟩) ⟨sz_c, va_recv hK hP (ci := 10) (q0 := 4) rfl (gX_4 cs ad mu), sz_m hK hz⟩ rfl rfl hl.1 rfl (lv_room (Nat.le_of_ble_eq_true rfl)) dX11_sell_7 ⟨Nat.zero_le _, Nat.zero_le _⟩) hS (fun r1 hw1 locs hS => ?_)
  obtain ⟨hfe1, hw1⟩ := hw1
  rcases hw1 with ⟨rfl, f1⟩ | ⟨rfl, f1⟩
  · have hF := (if_pos hfe1.symm).symm.trans hF
    have f1 : 0 ≤ vx.toInt ∧ vx.toInt < (mu 4 6).toInt ∧ (mu 4 6).toInt ≤ 7 := f1
    refine lv_if_ne (tgt := 17) hx hb dX11_sell_10 (by decide) (fun _ => ?_) (fun c => absurd c (by decide))
    refine lv_iconst (v := 0) hx hb dX11_sell_17 (by decide) ?_
    have hFc := fr_all (wR_D mu hD) hS hA
    refine va_calli (va_runV (As := [.int vk, .int 0]) (rest := []) ⟨hx, hb, hml, hown, hts⟩ (sx_refusedLetter l dC dI cs ad mu ok s.heap hP ((wR_D mu hD).weaken (fun _ _ _ _ => trivial)) vk 0) (cwV 2 hts (wU_V mw_3_157 mw_3_154 mw_3_156 mw_0_8 mw_1_1) rfl rfl rfl (by decide +kernel) ⟨Nat.le_of_ble_eq_true rfl, Nat.le_of_ble_eq_true rfl⟩) ⟨sz_c, va_recv hK hP (ci := 11) (q0 := 0) rfl (gX_0 cs ad mu), sz_m hK hz⟩ rfl rfl hl.1 rfl (lv_room (Nat.le_of_ble_eq_true rfl)) dX11_sell_18 ⟨Nat.zero_le _, Nat.zero_le _⟩) hS (fun q _ h => hFc q h) hFc (fun r2 xi2 t H2 locs ht hvm hw2 hB hz1 hk1 hS => ?_)
    have hP : va_P (dC, dI) vwCl (wR 157 ad (EX cs ad) xi2) H2 := by rw [← ht]; exact hB
    obtain ⟨hfe2, hw2⟩ := hw2
    have hF := mi_letp hF hfe2
    rcases hw2 with ⟨rfl, hxi2, f2⟩ | ⟨z2, ok, hkp2_0⟩
    · have hF := (if_pos rfl).symm.trans hF
      have hP : va_P (dC, dI) vwCl (wR 157 ad (EX cs ad) mu) H2 := by rw [← hxi2]; exact hP
      have f2 : 0 ≤ vk.toInt ∧ vk.toInt < (mu 5 4).toInt ∧ (mu 5 4).toInt ≤ 4 ∧ (0 : Int) = 0 := f2
      refine lv_istore_n (lv' := [(3, .int 0), (0, .ref (ad 0)), (1, .int vk), (2, .int vx)]) hx hb dX11_sell_21 rfl hl (by decide) rfl (fun ls hl => ?_)
      refine lv_iload_n hx hb dX11_sell_22 rfl (lv_at hl 0 rfl) ?_
      refine lv_if_eq (tgt := 28) hx hb dX11_sell_23 (by decide) (fun _ => ?_) (fun c => absurd (by decide) c)
      refine lv_aload_n hx hb dX11_sell_28 rfl (lv_at hl 1 rfl) ?_
      refine va_get (D := (dC, dI)) (ci := 11) (v := .ref (ad 4)) (C := RX11) (T := TX11) (N := 11) hx hb hts inG11 hown hK hP 0 (gX_0 cs ad mu) rfl 3 (by decide) (hts _ (List.mem_cons_of_mem _ mw_2_161)) (fun _ h9 => h9) rfl dX11_sell_29 ?_
      refine va_get (D := (dC, dI)) (ci := 10) (v := .ref (ad 5)) (C := RX10) (T := TX10) (N := 8) hx hb hts inG10 hown hK hP 4 (gX_4 cs ad mu) rfl 3 (by decide) (hts _ (List.mem_cons_of_mem _ mw_1_157)) (fun _ h9 => h9) rfl dX11_sell_32 ?_
      refine va_get (D := (dC, dI)) (ci := 8) (v := .ref (ad 47)) (C := RX8) (T := TX8) (N := 6) hx hb hts inG8 hown hK hP 5 (gX_5 cs ad mu) rfl 1 (by decide) (hts _ (List.mem_cons_of_mem _ mw_1_112)) (fun _ h9 => h9) rfl dX11_sell_35 ?_
      refine lv_iload_n hx hb dX11_sell_38 rfl (lv_at hl 2 rfl) ?_
      have hx4 : 0 ≤ vk.toInt ∧ vk.toInt < ((4 : Nat) : Int) := ⟨by omega, by omega⟩
      refine va_aldq hx hb hK hP 47 5 (gX_47 cs ad mu) rfl (show vp_in vk 4 from vi_of hx4.1 hx4.2) dX11_sell_39 ?_
      have hk4 : 61 ≤ (61 + vk.toNatClampNeg) ∧ (61 + vk.toNatClampNeg) < 65 := ix_of hx4
      have hk4 : 61 ≤ (61 + vk.toNatClampNeg) ∧ (61 + vk.toNatClampNeg) < 77 := ⟨Nat.le_trans (by decide) hk4.1, Nat.lt_of_lt_of_le hk4.2 (by decide)⟩
      refine lq_v (.ref (ad (61 + vk.toNatClampNeg))) rfl ?_
      refine lv_astore (lv' := [(4, .ref (ad (61 + vk.toNatClampNeg))), (3, .int 0), (0, .ref (ad 0)), (1, .int vk), (2, .int vx)]) hx hb dX11_sell_40 hl (by decide) rfl (fun ls hl => ?_)
      refine lv_aload_n hx hb dX11_sell_42 rfl (lv_at hl 2 rfl) ?_
      refine va_get (D := (dC, dI)) (ci := 11) (v := .ref (ad 4)) (C := RX11) (T := TX11) (N := 11) hx hb hts inG11 hown hK hP 0 (gX_0 cs ad mu) rfl 3 (by decide) (hts _ (List.mem_cons_of_mem _ mw_2_161)) (fun _ h9 => h9) rfl dX11_sell_43 ?_
      refine lv_aload hx hb dX11_sell_46 (lv_at hl 0 rfl) ?_
      refine cr_i (va_runV (As := [.ref (ad (61 + vk.toNatClampNeg))]) (rest := []) ⟨hx, hb, hml, hown, hts⟩ (sx_buyersOf l dC dI cs ad mu ok H2 hP (61 + vk.toNatClampNeg) hk4.1 hk4.2) (cwV 1 hts (wU_V mw_3_161 mw_3_158 mw_3_159 mw_3_160 mw_1_2) rfl rfl rfl (by decide +kernel) ⟨Nat.le_of_ble_eq_true rfl, Nat.le_of_ble_eq_true rfl⟩) ⟨sz_c, va_recv hK hP (ci := 10) (q0 := 4) rfl (gX_4 cs ad mu), sz_m hK hz⟩ rfl rfl hl.1 rfl (lv_room (Nat.le_of_ble_eq_true rfl)) dX11_sell_48 ⟨Nat.zero_le _, Nat.zero_le _⟩) hS (fun r5 hw5 locs hS => ?_)
      obtain ⟨hfe5, hw5⟩ := hw5
      have hF := mi_let hF hfe5
      refine lv_iload_n hx hb dX11_sell_51 rfl (lv_at hl 4 rfl) ?_
      refine cr_i (va_runS (As := [.int r5, .int vx]) (rest := []) ⟨hx, hb, hml, hown, hts⟩ (sx_hasBit l dC dI (tyW cs) H2 r5 vx) (va_cwS 2 hts (wU_S mw_3_87 mw_3_174 mw_3_86 mw_1_1) rfl rfl rfl (by decide +kernel) ⟨Nat.le_of_ble_eq_true rfl, Nat.le_of_ble_eq_true rfl⟩) ⟨sz_c, sz_m hK hz⟩ rfl rfl hl.1 rfl (lv_room (Nat.le_of_ble_eq_true rfl)) dX11_sell_52 ⟨Nat.zero_le _, Nat.zero_le _⟩) hS (fun r6 hw6 locs hS => ?_)
      obtain ⟨hfe6, hw6⟩ := hw6
      have hF := mi_let hF hfe6
      have gr6 : 0 ≤ r6.toInt ∧ r6.toInt ≤ 1 := hw6
      refine lv_if_ne (tgt := 61) hx hb dX11_sell_55 (by decide) (fun c_7 => ?_) (fun c_7 => ?_)
      · have hF := (if_neg c_7).symm.trans hF
        have c_7 : ¬ r6.toInt = 0 := il_ne c_7
        refine lv_aload_n hx hb dX11_sell_61 rfl (lv_at hl 2 rfl) ?_
        refine va_get (D := (dC, dI)) (ci := 11) (v := .ref (ad 6)) (C := RX11) (T := TX11) (N := 11) hx hb hts inG11 hown hK hP 0 (gX_0 cs ad mu) rfl 5 (by decide) (hts _ (List.mem_cons_of_mem _ mw_2_163)) (fun _ h9 => h9) rfl dX11_sell_62 ?_
        refine cr_i (va_runV (As := []) (rest := []) ⟨hx, hb, hml, hown, hts⟩ (sx_isFull l dC dI cs ad mu ok H2 hP) (cwV 0 hts (wU_V mw_3_178 mw_3_175 mw_3_176 mw_3_177 mw_1_6) rfl rfl rfl (by decide +kernel) ⟨Nat.le_of_ble_eq_true rfl, Nat.le_of_ble_eq_true rfl⟩) ⟨sz_c, va_recv hK hP (ci := 2) (q0 := 6) rfl (gX_6 cs ad mu), sz_m hK hz⟩ rfl rfl hl.1 rfl (lv_room (Nat.le_of_ble_eq_true rfl)) dX11_sell_65 ⟨Nat.zero_le _, Nat.zero_le _⟩) hS (fun r8 hw8 locs hS => ?_)
        obtain ⟨hfe8, hw8⟩ := hw8
        rcases hw8 with ⟨rfl, f8⟩ | ⟨rfl, f8⟩
        · have hF := (if_pos hfe8.symm).symm.trans hF
          have f8 : 40 ≤ (mu 6 1).toInt := f8
          refine lv_if_eq (tgt := 74) hx hb dX11_sell_68 (by decide) (fun c => absurd c (by decide)) (fun _ => ?_)
          refine lv_bipush (v := (-2)) hx hb dX11_sell_71 (by decide) ?_
          exact W.iret (v := (-2)) hx hb hr (fun t ht hW => ⟨⟨(-2), mu, rfl, ⟨hF.trans hfz.symm, ok, trivial, (fun _ _ _ => rfl)⟩, by first | (subst ht; exact hP) | (rw [ht]; exact hP) | (show va_P (dC, dI) vwCl (wR 157 ad (EX cs ad) mu) t.heap; rw [ht]; exact hP)⟩, hS.F ht⟩) hS.2.2 dX11_sell_73
        · have hF := (if_neg (fun h => absurd (hfe8.trans h) (by decide))).symm.trans hF
          have f8 : (mu 6 1).toInt ≤ 39 := f8
          refine lv_if_eq (tgt := 74) hx hb dX11_sell_68 (by decide) (fun _ => ?_) (fun c => absurd (by decide) c)
          refine lv_aload_n hx hb dX11_sell_74 rfl (lv_at hl 2 rfl) ?_
          refine va_get (D := (dC, dI)) (ci := 11) (v := .ref (ad 6)) (C := RX11) (T := TX11) (N := 11) hx hb hts inG11 hown hK hP 0 (gX_0 cs ad mu) rfl 5 (by decide) (hts _ (List.mem_cons_of_mem _ mw_2_163)) (fun _ h9 => h9) rfl dX11_sell_75 ?_
          refine lv_aload_n hx hb dX11_sell_78 rfl (lv_at hl 2 rfl) ?_
          refine va_get (D := (dC, dI)) (ci := 11) (v := .ref (ad 4)) (C := RX11) (T := TX11) (N := 11) hx hb hts inG11 hown hK hP 0 (gX_0 cs ad mu) rfl 3 (by decide) (hts _ (List.mem_cons_of_mem _ mw_2_161)) (fun _ h9 => h9) rfl dX11_sell_79 ?_
          refine lv_iload_n hx hb dX11_sell_82 rfl (lv_at hl 3 rfl) ?_
          refine lv_iload_n hx hb dX11_sell_83 rfl (lv_at hl 4 rfl) ?_
          have hFc := fr_all (wR_D mu hD) hS hA
          refine va_calli (va_runV (As := [.ref (ad 4), .int vk, .int vx]) (rest := []) ⟨hx, hb, hml, hown, hts⟩ (sx_enterSale l dC dI cs ad mu ok H2 hP ((wR_D mu hD).weaken (fun _ _ _ _ => trivial)) vk vx (by omega) (by omega)) (cwV 3 hts (wU_V mw_3_182 mw_3_179 mw_3_180 mw_3_181 mw_1_6) rfl rfl rfl (by decide +kernel) ⟨Nat.le_of_ble_eq_true rfl, Nat.le_of_ble_eq_true rfl⟩) ⟨sz_c, va_recv hK hP (ci := 2) (q0 := 6) rfl (gX_6 cs ad mu), sz_m hK hz⟩ rfl rfl hl.1 rfl (lv_room (Nat.le_of_ble_eq_true rfl)) dX11_sell_84 ⟨Nat.zero_le _, Nat.zero_le _⟩) hS (fun q _ h => hFc q h) hFc (fun r9 xi9 t H9 locs ht hvm hw9 hB hz1 hk1 hS => ?_)
          have hP : va_P (dC, dI) vwCl (wR 157 ad (EX cs ad) xi9) H9 := by rw [← ht]; exact hB
          obtain ⟨hfe9, ok, hw9, hkp9_0⟩ := hw9
          have hF := mi_letp hF hfe9
          have kp10 : (∀ k f : Nat, Nat.testBit 486 (gpX k f) = true → xi9 k f = mu k f) := kp_t hkp9_0 (by decide) (fun _ _ _ => rfl)
          refine lv_istore (lv' := [(5, .int r9), (4, .ref (ad (61 + vk.toNatClampNeg))), (3, .int 0), (0, .ref (ad 0)), (1, .int vk), (2, .int vx)]) hx hb dX11_sell_87 hl (by decide) rfl (fun ls hl => ?_)
          refine lv_aload hx hb dX11_sell_89 (lv_at hl 1 rfl) ?_
          refine va_get (D := (dC, dI)) (ci := 3) (v := .int (xi9 (61 + vk.toNatClampNeg) 9)) (C := RX3) (T := TX3) (N := 10) hx hb hts inG3 hown hK hP (61 + vk.toNatClampNeg) (gX_letter cs ad xi9 (61 + vk.toNatClampNeg) hk4.1 hk4.2) rfl 9 (by decide) (hts _ (List.mem_cons_of_mem _ mw_1_80)) (fun _ h9 => h9) rfl dX11_sell_91 ?_
          refine lv_topi (fun y11 ey11 => ?_)
          have hF := mi_let hF ey11
          have by11 : y11.toInt = (xi9 (61 + vk.toNatClampNeg) 9).toInt := congrArg Int32.toInt ey11
          have gy11 : 0 ≤ y11.toInt ∧ y11.toInt ≤ 1 := by rw [ey11]; exact rX_letter_9 ok (61 + vk.toNatClampNeg) hk4.1 hk4.2
          refine lv_if_eq (tgt := 106) hx hb dX11_sell_94 (by decide) (fun c_12 => ?_) (fun c_12 => ?_)
          · have hF := (if_pos c_12).symm.trans hF
            have c_12 : y11.toInt = 0 := il_eq c_12
            refine lv_iload hx hb dX11_sell_106 (lv_at hl 0 rfl) ?_
            exact W.iret (v := r9) hx hb hr (fun t ht hW => ⟨⟨r9, xi9, rfl, ⟨hF.trans hfz.symm, ok, trivial, kp10⟩, by first | (subst ht; exact hP) | (rw [ht]; exact hP) | (show va_P (dC, dI) vwCl (wR 157 ad (EX cs ad) xi9) t.heap; rw [ht]; exact hP)⟩, hS.F ht⟩) hS.2.2 dX11_sell_108
          · have hF := (if_neg c_12).symm.trans hF
            have c_12 : ¬ y11.toInt = 0 := il_ne c_12
            refine lv_iload hx hb dX11_sell_97 (lv_at hl 0 rfl) ?_
            refine lv_sipush (v := 1000) hx hb dX11_sell_99 (by decide) ?_
            refine lv_iadd hx hb dX11_sell_102 ?_
            refine lv_topi (fun t13 et13 => ?_)
            have hF := mi_let hF et13
            refine lv_goto (tgt := 108) hx hb dX11_sell_103 (by decide) ?_
            exact W.iret (v := t13) hx hb hr (fun t ht hW => ⟨⟨t13, xi9, rfl, ⟨hF.trans hfz.symm, ok, trivial, kp10⟩, by first | (subst ht; exact hP) | (rw [ht]; exact hP) | (show va_P (dC, dI) vwCl (wR 157 ad (EX cs ad) xi9) t.heap; rw [ht]; exact hP)⟩, hS.F ht⟩) hS.2.2 dX11_sell_108
      · have hF := (if_pos c_7).symm.trans hF
        have c_7 : r6.toInt = 0 := il_eq c_7
        refine lv_bipush (v := (-4)) hx hb dX11_sell_58 (by decide) ?_
        exact W.iret (v := (-4)) hx hb hr (fun t ht hW => ⟨⟨(-4), mu, rfl, ⟨hF.trans hfz.symm, ok, trivial, (fun _ _ _ => rfl)⟩, by first | (subst ht; exact hP) | (rw [ht]; exact hP) | (show va_P (dC, dI) vwCl (wR 157 ad (EX cs ad) mu) t.heap; rw [ht]; exact hP)⟩, hS.F ht⟩) hS.2.2 dX11_sell_60
    · have hF := (if_neg (show ¬ r2 = 0 from fun h => by have h9 := congrArg Int32.toInt h; have h8 : (0 : Int32).toInt = 0 := rfl; omega)).symm.trans hF
      have kp3 : (∀ k f : Nat, Nat.testBit 486 (gpX k f) = true → xi2 k f = mu k f) := kp_t hkp2_0 (by decide) (fun _ _ _ => rfl)
      skip
      refine lv_istore_n (lv' := [(3, .int r2), (0, .ref (ad 0)), (1, .int vk), (2, .int vx)]) hx hb dX11_sell_21 rfl hl (by decide) rfl (fun ls hl => ?_)
      refine lv_iload_n hx hb dX11_sell_22 rfl (lv_at hl 0 rfl) ?_
      refine lv_if_eq (tgt := 28) hx hb dX11_sell_23 (by decide) (fun c_14 => by have c_14 : r2.toInt = 0 := il_eq c_14; exfalso; omega) (fun c_14 => ?_)
      have c_14 : ¬ r2.toInt = 0 := il_ne c_14
      refine lv_iload_n hx hb dX11_sell_26 rfl (lv_at hl 0 rfl) ?_
      exact W.iret (v := r2) hx hb hr (fun t ht hW => ⟨⟨r2, xi2, rfl, ⟨hF.trans hfz.symm, ok, trivial, kp3⟩, by first | (subst ht; exact hP) | (rw [ht]; exact hP) | (show va_P (dC, dI) vwCl (wR 157 ad (EX cs ad) xi2) t.heap; rw [ht]; exact hP)⟩, hS.F ht⟩) hS.2.2 dX11_sell_27
  · have hF := (if_neg (fun h => absurd (hfe1.trans h) (by decide))).symm.trans hF
    have f1 : vx.toInt < 0 ∨ (mu 4 6).toInt ≤ vx.toInt := f1
    refine lv_if_ne (tgt := 17) hx hb dX11_sell_10 (by decide) (fun c => absurd (by decide) c) (fun _ => ?_)
    refine lv_iconst (v := 1) hx hb dX11_sell_13 (by decide) ?_
    refine lv_goto (tgt := 18) hx hb dX11_sell_14 (by decide) ?_
    have hFc := fr_all (wR_D mu hD) hS hA
    refine va_calli (va_runV (As := [.int vk, .int 1]) (rest := []) ⟨hx, hb, hml, hown, hts⟩ (sx_refusedLetter l dC dI cs ad mu ok s.heap hP ((wR_D mu hD).weaken (fun _ _ _ _ => trivial)) vk 1) (cwV 2 hts (wU_V mw_3_157 mw_3_154 mw_3_156 mw_0_8 mw_1_1) rfl rfl rfl (by decide +kernel) ⟨Nat.le_of_ble_eq_true rfl, Nat.le_of_ble_eq_true rfl⟩) ⟨sz_c, va_recv hK hP (ci := 11) (q0 := 0) rfl (gX_0 cs ad mu), sz_m hK hz⟩ rfl rfl hl.1 rfl (lv_room (Nat.le_of_ble_eq_true rfl)) dX11_sell_18 ⟨Nat.zero_le _, Nat.zero_le _⟩) hS (fun q _ h => hFc q h) hFc (fun r15 xi15 t H15 locs ht hvm hw15 hB hz1 hk1 hS => ?_)
    have hP : va_P (dC, dI) vwCl (wR 157 ad (EX cs ad) xi15) H15 := by rw [← ht]; exact hB
    obtain ⟨hfe15, hw15⟩ := hw15
    have hF := mi_letp hF hfe15
    rcases hw15 with ⟨rfl, hxi15, f15⟩ | ⟨z15, ok, hkp15_0⟩
    · have f15 : 0 ≤ vk.toInt ∧ vk.toInt < (mu 5 4).toInt ∧ (mu 5 4).toInt ≤ 4 ∧ (1 : Int) = 0 := f15
      exfalso
      have h9 : (1 : Int32).toInt = 1 := rfl
      omega
    · have hF := (if_neg (show ¬ r15 = 0 from fun h => by have h9 := congrArg Int32.toInt h; have h8 : (0 : Int32).toInt = 0 := rfl; omega)).symm.trans hF
      have kp16 : (∀ k f : Nat, Nat.testBit 486 (gpX k f) = true → xi15 k f = mu k f) := kp_t hkp15_0 (by decide) (fun _ _ _ => rfl)
      skip
      refine lv_istore_n (lv' := [(3, .int r15), (0, .ref (ad 0)), (1, .int vk), (2, .int vx)]) hx hb dX11_sell_21 rfl hl (by decide) rfl (fun ls hl => ?_)
      refine lv_iload_n hx hb dX11_sell_22 rfl (lv_at hl 0 rfl) ?_
      refine lv_if_eq (tgt := 28) hx hb dX11_sell_23 (by decide) (fun c_17 => by have c_17 : r15.toInt = 0 := il_eq c_17; exfalso; omega) (fun c_17 => ?_)
      have c_17 : ¬ r15.toInt = 0 := il_ne c_17
      refine lv_iload_n hx hb dX11_sell_26 rfl (lv_at hl 0 rfl) ?_
      exact W.iret (v := r15) hx hb hr (fun t ht hW => ⟨⟨r15, xi15, rfl, ⟨hF.trans hfz.symm, ok, trivial, kp16⟩, by first | (subst ht; exact hP) | (rw [ht]; exact hP) | (show va_P (dC, dI) vwCl (wR 157 ad (EX cs ad) xi15) t.heap; rw [ht]; exact hP)⟩, hS.F ht⟩) hS.2.2 dX11_sell_27
set_option maxHeartbeats 4000000 in
set_option maxRecDepth 100000 in
/-- qx_letter -/
theorem qx_letter (l : Launch) (dC : Nat → ClassId) (dI : Nat → Nat → Nat) (cs : Nat → ClassId) (ad : Nat → Nat) (mu : Nat → Nat → Int32) (ok : okR loX hiX mu) (H : Heap) (hP : va_P (dC, dI) vwCl (wR 157 ad (EX cs ad) mu) H) (hD0 : va_D (fun _ => True) (wR 157 ad (EX cs ad) mu)) (vk : Int32) (vw : Int32) : Met l yX11_letter (wU yX11_letter cX11_letter 4 (some .int)) ({ frames := 3, cells := 0, slots := 0, locals := 73 }) (va_Pc [.ref (ad 0), .int vk, .int vw] (sz_P (dC, dI) vwCl (tyW cs) H)) (va_Qi (fun (z : Int32) (xi : Nat → Nat → Int32) => (z, xi) = F_qx_letter mu vk vw ∧ okR loX hiX xi ∧ (True) ∧ (∀ k f : Nat, Nat.testBit 510 (gpX k f) = true → xi k f = mu k f)) (fun xi t => va_P (dC, dI) vwCl (wR 157 ad (EX cs ad) xi) t.heap) (va_A (wR 157 ad (EX cs ad) mu) H.size)) 0 0 (va_A (wR 157 ad (EX cs ad) mu) H.size) := by
  refine Met.ofW (cc := cX11_letter) (maxL := 4) (ret := (some .int)) (by decide) rfl ?_
  intro p e s m args below meth c s₁ B hml hv
  obtain ⟨rfl, hh, hK, hz⟩ := hv
  have hx := B.exec
  have hb := B.bytes
  have hr := B.returns
  have hts := atoms_spec (ws := (wU yX11_letter cX11_letter 4 (some .int))) B.pre
  have hown : s.vm.findClass RX11 = some m.cls := findClass_of_methodNamed B.named
  have hlocks := B.notSynchronized
  subst hh
  have hD := hD0.self (sz := s.heap.size)
  have hA : ∀ q : Nat, s.heap.size ≤ q → (va_A (wR 157 ad (EX cs ad) mu) s.heap.size) q := fun q h => Or.inr h
  have hS : va_S (va_A (wR 157 ad (EX cs ad) mu) s.heap.size) s.heap s.heap [] := va_S.rf
  have hl := lv_entry ([.ref (ad 0), .int vk, .int vw]) (n := 4) (Nat.le_of_ble_eq_true rfl)
  rw [lg_entry_eq]
  generalize (lg_sl ([.ref (ad 0), .int vk, .int vw]) ++ List.replicate (4 - (lg_sl ([.ref (ad 0), .int vk, .int vw])).length) Slot.unset).toArray = ls at hl ⊢
  have hl : lv_has ls 4 [(0, .ref (ad 0)), (1, .int vk), (2, .int vw)] := hl
  obtain ⟨fz, hfz⟩ : ∃ z, F_qx_letter mu vk vw = z := ⟨_, rfl⟩
  have hF := hfz
  unfold F_qx_letter at hF
  refine lv_aload_n hx hb dX11_letter_0 rfl (lv_at hl 0 rfl) ?_
  refine lv_iload_n hx hb dX11_letter_1 rfl (lv_at hl 1 rfl) ?_
  refine lv_iload_n hx hb dX11_letter_2 rfl (lv_at hl 2 rfl) ?_
  refine lv_if_lt (tgt := 11) hx hb dX11_letter_3 (by decide) (fun c_1 => ?_) (fun c_1 => ?_)
  · have hF := (if_pos c_1).symm.trans hF
    have c_1 : vw.toInt < 0 := il_lt c_1
    refine lv_iconst (v := 1) hx hb dX11_letter_11 (by decide) ?_
    refine lv_goto (tgt := 16) hx hb dX11_letter_12 (by decide) ?_
    have hFc := fr_all (wR_D mu hD) hS hA
    refine va_calli (va_runV (As := [.int vk, .int 1]) (rest := []) ⟨hx, hb, hml, hown, hts⟩ (sx_refusedLetter l dC dI cs ad mu ok s.heap hP ((wR_D mu hD).weaken (fun _ _ _ _ => trivial)) vk 1) (cwV 2 hts (wU_V mw_3_157 mw_3_154 mw_3_156 mw_0_8 mw_1_1) rfl rfl rfl (by decide +kernel) ⟨Nat.le_of_ble_eq_true rfl, Nat.le_of_ble_eq_true rfl⟩) ⟨sz_c, va_recv hK hP (ci := 11) (q0 := 0) rfl (gX_0 cs ad mu), sz_m hK hz⟩ rfl rfl hl.1 rfl (lv_room (Nat.le_of_ble_eq_true rfl)) dX11_letter_16 ⟨Nat.zero_le _, Nat.zero_le _⟩) hS (fun q _ h => hFc q h) hFc (fun r2 xi2 t H2 locs ht hvm hw2 hB hz1 hk1 hS => ?_)
    have hP : va_P (dC, dI) vwCl (wR 157 ad (EX cs ad) xi2) H2 := by rw [← ht]; exact hB
    obtain ⟨hfe2, hw2⟩ := hw2
    have hF := mi_letp hF hfe2
    rcases hw2 with ⟨rfl, hxi2, f2⟩ | ⟨z2, ok, hkp2_0⟩
    · have f2 : 0 ≤ vk.toInt ∧ vk.toInt < (mu 5 4).toInt ∧ (mu 5 4).toInt ≤ 4 ∧ (1 : Int) = 0 := f2
      exfalso
      have h9 : (1 : Int32).toInt = 1 := rfl
      omega
    · have hF := (if_neg (show ¬ r2 = 0 from fun h => by have h9 := congrArg Int32.toInt h; have h8 : (0 : Int32).toInt = 0 := rfl; omega)).symm.trans hF
      have kp3 : (∀ k f : Nat, Nat.testBit 510 (gpX k f) = true → xi2 k f = mu k f) := kp_t hkp2_0 (by decide) (fun _ _ _ => rfl)
      skip
      refine lv_istore_n (lv' := [(3, .int r2), (0, .ref (ad 0)), (1, .int vk), (2, .int vw)]) hx hb dX11_letter_19 rfl hl (by decide) rfl (fun ls hl => ?_)
      refine lv_iload_n hx hb dX11_letter_20 rfl (lv_at hl 0 rfl) ?_
      refine lv_if_eq (tgt := 26) hx hb dX11_letter_21 (by decide) (fun c_4 => by have c_4 : r2.toInt = 0 := il_eq c_4; exfalso; omega) (fun c_4 => ?_)
      have c_4 : ¬ r2.toInt = 0 := il_ne c_4
      refine lv_iload_n hx hb dX11_letter_24 rfl (lv_at hl 0 rfl) ?_
      exact W.iret (v := r2) hx hb hr (fun t ht hW => ⟨⟨r2, xi2, rfl, ⟨hF.trans hfz.symm, ok, trivial, kp3⟩, by first | (subst ht; exact hP) | (rw [ht]; exact hP) | (show va_P (dC, dI) vwCl (wR 157 ad (EX cs ad) xi2) t.heap; rw [ht]; exact hP)⟩, hS.F ht⟩) hS.2.2 dX11_letter_25
  · have hF := (if_neg c_1).symm.trans hF
    have c_1 : 0 ≤ vw.toInt := il_nlt c_1
    refine lv_iload_n hx hb dX11_letter_6 rfl (lv_at hl 2 rfl) ?_
    refine lv_iconst (v := 5) hx hb dX11_letter_7 (by decide) ?_
    refine lv_icmp_lt (tgt := 15) hx hb dX11_letter_8 (by decide) (fun c_5 => ?_) (fun c_5 => ?_)
    · have hF := (if_pos c_5).symm.trans hF
      have c_5 : vw.toInt < 5 := il_lt c_5
      refine lv_iconst (v := 0) hx hb dX11_letter_15 (by decide) ?_
      have hFc := fr_all (wR_D mu hD) hS hA
      refine va_calli (va_runV (As := [.int vk, .int 0]) (rest := []) ⟨hx, hb, hml, hown, hts⟩ (sx_refusedLetter l dC dI cs ad mu ok s.heap hP ((wR_D mu hD).weaken (fun _ _ _ _ => trivial)) vk 0) (cwV 2 hts (wU_V mw_3_157 mw_3_154 mw_3_156 mw_0_8 mw_1_1) rfl rfl rfl (by decide +kernel) ⟨Nat.le_of_ble_eq_true rfl, Nat.le_of_ble_eq_true rfl⟩) ⟨sz_c, va_recv hK hP (ci := 11) (q0 := 0) rfl (gX_0 cs ad mu), sz_m hK hz⟩ rfl rfl hl.1 rfl (lv_room (Nat.le_of_ble_eq_true rfl)) dX11_letter_16 ⟨Nat.zero_le _, Nat.zero_le _⟩) hS (fun q _ h => hFc q h) hFc (fun r6 xi6 t H6 locs ht hvm hw6 hB hz1 hk1 hS => ?_)
      have hP : va_P (dC, dI) vwCl (wR 157 ad (EX cs ad) xi6) H6 := by rw [← ht]; exact hB
      obtain ⟨hfe6, hw6⟩ := hw6
      have hF := mi_letp hF hfe6
      rcases hw6 with ⟨rfl, hxi6, f6⟩ | ⟨z6, ok, hkp6_0⟩
      · have hF := (if_pos rfl).symm.trans hF
        have hP : va_P (dC, dI) vwCl (wR 157 ad (EX cs ad) mu) H6 := by rw [← hxi6]; exact hP
        have f6 : 0 ≤ vk.toInt ∧ vk.toInt < (mu 5 4).toInt ∧ (mu 5 4).toInt ≤ 4 ∧ (0 : Int) = 0 := f6
        refine lv_istore_n (lv' := [(3, .int 0), (0, .ref (ad 0)), (1, .int vk), (2, .int vw)]) hx hb dX11_letter_19 rfl hl (by decide) rfl (fun ls hl => ?_)
        refine lv_iload_n hx hb dX11_letter_20 rfl (lv_at hl 0 rfl) ?_
        refine lv_if_eq (tgt := 26) hx hb dX11_letter_21 (by decide) (fun _ => ?_) (fun c => absurd (by decide) c)
        refine lv_aload_n hx hb dX11_letter_26 rfl (lv_at hl 1 rfl) ?_
        refine lv_aload_n hx hb dX11_letter_27 rfl (lv_at hl 1 rfl) ?_
        refine va_get (D := (dC, dI)) (ci := 11) (v := .ref (ad 4)) (C := RX11) (T := TX11) (N := 11) hx hb hts inG11 hown hK hP 0 (gX_0 cs ad mu) rfl 3 (by decide) (hts _ (List.mem_cons_of_mem _ mw_2_161)) (fun _ h9 => h9) rfl dX11_letter_28 ?_
        refine va_get (D := (dC, dI)) (ci := 10) (v := .ref (ad 5)) (C := RX10) (T := TX10) (N := 8) hx hb hts inG10 hown hK hP 4 (gX_4 cs ad mu) rfl 3 (by decide) (hts _ (List.mem_cons_of_mem _ mw_1_157)) (fun _ h9 => h9) rfl dX11_letter_31 ?_
        refine va_get (D := (dC, dI)) (ci := 8) (v := .ref (ad 47)) (C := RX8) (T := TX8) (N := 6) hx hb hts inG8 hown hK hP 5 (gX_5 cs ad mu) rfl 1 (by decide) (hts _ (List.mem_cons_of_mem _ mw_1_112)) (fun _ h9 => h9) rfl dX11_letter_34 ?_
        refine lv_iload_n hx hb dX11_letter_37 rfl (lv_at hl 2 rfl) ?_
        have hx8 : 0 ≤ vk.toInt ∧ vk.toInt < ((4 : Nat) : Int) := ⟨by omega, by omega⟩
        refine va_aldq hx hb hK hP 47 5 (gX_47 cs ad mu) rfl (show vp_in vk 4 from vi_of hx8.1 hx8.2) dX11_letter_38 ?_
        have hk8 : 61 ≤ (61 + vk.toNatClampNeg) ∧ (61 + vk.toNatClampNeg) < 65 := ix_of hx8
        have hk8 : 61 ≤ (61 + vk.toNatClampNeg) ∧ (61 + vk.toNatClampNeg) < 77 := ⟨Nat.le_trans (by decide) hk8.1, Nat.lt_of_lt_of_le hk8.2 (by decide)⟩
        refine lq_v (.ref (ad (61 + vk.toNatClampNeg))) rfl ?_
        refine lv_iload_n hx hb dX11_letter_39 rfl (lv_at hl 3 rfl) ?_
        refine lv_aload_n hx hb dX11_letter_40 rfl (lv_at hl 1 rfl) ?_
        refine va_get (D := (dC, dI)) (ci := 11) (v := .ref (ad 4)) (C := RX11) (T := TX11) (N := 11) hx hb hts inG11 hown hK hP 0 (gX_0 cs ad mu) rfl 3 (by decide) (hts _ (List.mem_cons_of_mem _ mw_2_161)) (fun _ h9 => h9) rfl dX11_letter_41 ?_
        refine va_get (D := (dC, dI)) (ci := 10) (v := .ref (ad 5)) (C := RX10) (T := TX10) (N := 8) hx hb hts inG10 hown hK hP 4 (gX_4 cs ad mu) rfl 3 (by decide) (hts _ (List.mem_cons_of_mem _ mw_1_157)) (fun _ h9 => h9) rfl dX11_letter_44 ?_
        refine va_get (D := (dC, dI)) (ci := 8) (v := .int (mu 5 3)) (C := RX8) (T := TX8) (N := 6) hx hb hts inG8 hown hK hP 5 (gX_5 cs ad mu) rfl 3 (by decide) (hts _ (List.mem_cons_of_mem _ mw_1_124)) (fun _ h9 => h9) rfl dX11_letter_47 ?_
        refine lv_topi (fun y9 ey9 => ?_)
        have hF := mi_let hF ey9
        have by9 : y9.toInt = (mu 5 3).toInt := congrArg Int32.toInt ey9
        refine cr_i (va_runV (As := [.int vw, .int y9]) (rest := [.ref (ad 0)]) ⟨hx, hb, hml, hown, hts⟩ (sx_fact l dC dI cs ad mu ok H6 hP (61 + vk.toNatClampNeg) hk8.1 hk8.2 vw y9) (cwV 2 hts (wU_V mw_3_200 mw_3_197 mw_3_198 mw_3_199 mw_1_4) rfl rfl rfl (by decide +kernel) ⟨Nat.le_of_ble_eq_true rfl, Nat.le_of_ble_eq_true rfl⟩) ⟨sz_c, va_recv hK hP (ci := 3) (q0 := (61 + vk.toNatClampNeg)) rfl (gX_letter cs ad mu (61 + vk.toNatClampNeg) hk8.1 hk8.2), sz_m hK hz⟩ rfl rfl hl.1 rfl (lv_room (Nat.le_of_ble_eq_true rfl)) dX11_letter_50 ⟨Nat.zero_le _, Nat.zero_le _⟩) hS (fun r10 hw10 locs hS => ?_)
        obtain ⟨hfe10, hw10⟩ := hw10
        have hF := mi_let hF hfe10
        refine va_put (D := (dC, dI)) (ci := 11) (v := .int r10) (ty := .int) (C := RX11) (T := TX11) (N := 11) hx hb hts inG11 tyX11 tyX11_ok nmX11 hown hK hP (wR_D mu hD) hS 0 (gX_0 cs ad mu) rfl 10 (by decide) (hts _ (List.mem_cons_of_mem _ mw_2_168)) (fun _ h9 => h9) rfl (by decide +kernel) rfl rfl (Nat.le_of_ble_eq_true rfl) dX11_letter_53 (fun H locs hP _ hS => ?_)
        simp only [List.set_cons_succ, List.set_cons_zero] at hP
        refine wr_gen (upd (mu 0) 10 r10) hP ((hX_0_10 cs ad _ _)) (fun nu11 hn11 hP => ?_)
        have hF := mi_let hF hn11.symm
        have ok := tX_0_10 ok hn11
        have ez12 : y9 = nu11 5 3 := ey9.trans (congrFun (up_k hn11 (by decide)) 3).symm
        have kp13 : (∀ k f : Nat, Nat.testBit 510 (gpX k f) = true → nu11 k f = mu k f) := kp_c 0 hn11 (fun _ => rfl) (by decide) (fun _ _ _ => rfl)
        have ez14 : r10 = nu11 0 10 := up_v hn11
        refine lv_iconst (v := 1) hx hb dX11_letter_56 (by decide) ?_
        exact W.iret (v := 1) hx hb hr (fun t ht hW => ⟨⟨1, nu11, rfl, ⟨hF.trans hfz.symm, ok, trivial, kp13⟩, by first | (subst ht; exact hP) | (rw [ht]; exact hP) | (show va_P (dC, dI) vwCl (wR 157 ad (EX cs ad) nu11) t.heap; rw [ht]; exact hP)⟩, hS.F ht⟩) hS.2.2 dX11_letter_57
      · have hF := (if_neg (show ¬ r6 = 0 from fun h => by have h9 := congrArg Int32.toInt h; have h8 : (0 : Int32).toInt = 0 := rfl; omega)).symm.trans hF
        have kp7 : (∀ k f : Nat, Nat.testBit 510 (gpX k f) = true → xi6 k f = mu k f) := kp_t hkp6_0 (by decide) (fun _ _ _ => rfl)
        skip
        refine lv_istore_n (lv' := [(3, .int r6), (0, .ref (ad 0)), (1, .int vk), (2, .int vw)]) hx hb dX11_letter_19 rfl hl (by decide) rfl (fun ls hl => ?_)
        refine lv_iload_n hx hb dX11_letter_20 rfl (lv_at hl 0 rfl) ?_
        refine lv_if_eq (tgt := 26) hx hb dX11_letter_21 (by decide) (fun c_15 => by have c_15 : r6.toInt = 0 := il_eq c_15; exfalso; omega) (fun c_15 => ?_)
        have c_15 : ¬ r6.toInt = 0 := il_ne c_15
        refine lv_iload_n hx hb dX11_letter_24 rfl (lv_at hl 0 rfl) ?_
        exact W.iret (v := r6) hx hb hr (fun t ht hW => ⟨⟨r6, xi6, rfl, ⟨hF.trans hfz.symm, ok, trivial, kp7⟩, by first | (subst ht; exact hP) | (rw [ht]; exact hP) | (show va_P (dC, dI) vwCl (wR 157 ad (EX cs ad) xi6) t.heap; rw [ht]; exact hP)⟩, hS.F ht⟩) hS.2.2 dX11_letter_25
    · have hF := (if_neg c_5).symm.trans hF
      have c_5 : 5 ≤ vw.toInt := il_nlt c_5
      refine lv_iconst (v := 1) hx hb dX11_letter_11 (by decide) ?_
      refine lv_goto (tgt := 16) hx hb dX11_letter_12 (by decide) ?_
      have hFc := fr_all (wR_D mu hD) hS hA
      refine va_calli (va_runV (As := [.int vk, .int 1]) (rest := []) ⟨hx, hb, hml, hown, hts⟩ (sx_refusedLetter l dC dI cs ad mu ok s.heap hP ((wR_D mu hD).weaken (fun _ _ _ _ => trivial)) vk 1) (cwV 2 hts (wU_V mw_3_157 mw_3_154 mw_3_156 mw_0_8 mw_1_1) rfl rfl rfl (by decide +kernel) ⟨Nat.le_of_ble_eq_true rfl, Nat.le_of_ble_eq_true rfl⟩) ⟨sz_c, va_recv hK hP (ci := 11) (q0 := 0) rfl (gX_0 cs ad mu), sz_m hK hz⟩ rfl rfl hl.1 rfl (lv_room (Nat.le_of_ble_eq_true rfl)) dX11_letter_16 ⟨Nat.zero_le _, Nat.zero_le _⟩) hS (fun q _ h => hFc q h) hFc (fun r16 xi16 t H16 locs ht hvm hw16 hB hz1 hk1 hS => ?_)
      have hP : va_P (dC, dI) vwCl (wR 157 ad (EX cs ad) xi16) H16 := by rw [← ht]; exact hB
      obtain ⟨hfe16, hw16⟩ := hw16
      have hF := mi_letp hF hfe16
      rcases hw16 with ⟨rfl, hxi16, f16⟩ | ⟨z16, ok, hkp16_0⟩
      · have f16 : 0 ≤ vk.toInt ∧ vk.toInt < (mu 5 4).toInt ∧ (mu 5 4).toInt ≤ 4 ∧ (1 : Int) = 0 := f16
        exfalso
        have h9 : (1 : Int32).toInt = 1 := rfl
        omega
      · have hF := (if_neg (show ¬ r16 = 0 from fun h => by have h9 := congrArg Int32.toInt h; have h8 : (0 : Int32).toInt = 0 := rfl; omega)).symm.trans hF
        have kp17 : (∀ k f : Nat, Nat.testBit 510 (gpX k f) = true → xi16 k f = mu k f) := kp_t hkp16_0 (by decide) (fun _ _ _ => rfl)
        skip
        refine lv_istore_n (lv' := [(3, .int r16), (0, .ref (ad 0)), (1, .int vk), (2, .int vw)]) hx hb dX11_letter_19 rfl hl (by decide) rfl (fun ls hl => ?_)
        refine lv_iload_n hx hb dX11_letter_20 rfl (lv_at hl 0 rfl) ?_
        refine lv_if_eq (tgt := 26) hx hb dX11_letter_21 (by decide) (fun c_18 => by have c_18 : r16.toInt = 0 := il_eq c_18; exfalso; omega) (fun c_18 => ?_)
        have c_18 : ¬ r16.toInt = 0 := il_ne c_18
        refine lv_iload_n hx hb dX11_letter_24 rfl (lv_at hl 0 rfl) ?_
        exact W.iret (v := r16) hx hb hr (fun t ht hW => ⟨⟨r16, xi16, rfl, ⟨hF.trans hfz.symm, ok, trivial, kp17⟩, by first | (subst ht; exact hP) | (rw [ht]; exact hP) | (show va_P (dC, dI) vwCl (wR 157 ad (EX cs ad) xi16) t.heap; rw [ht]; exact hP)⟩, hS.F ht⟩) hS.2.2 dX11_letter_25
set_option maxHeartbeats 4000000 in
set_option maxRecDepth 100000 in
/-- qx_can -/
theorem qx_can (l : Launch) (dC : Nat → ClassId) (dI : Nat → Nat → Nat) (cs : Nat → ClassId) (ad : Nat → Nat) (mu : Nat → Nat → Int32) (ok : okR loX hiX mu) (H : Heap) (hP : va_P (dC, dI) vwCl (wR 157 ad (EX cs ad) mu) H) (hD0 : va_D (fun _ => True) (wR 157 ad (EX cs ad) mu)) (vk : Int32) : Met l yX11_can (wU yX11_can cX11_can 3 (some .int)) ({ frames := 3, cells := 0, slots := 0, locals := 76 }) (va_Pc [.ref (ad 0), .int vk] (sz_P (dC, dI) vwCl (tyW cs) H)) (va_Qi (fun (z : Int32) (xi : Nat → Nat → Int32) => (z, xi) = F_qx_can mu vk ∧ okR loX hiX xi ∧ (True) ∧ (∀ k f : Nat, Nat.testBit 510 (gpX k f) = true → xi k f = mu k f)) (fun xi t => va_P (dC, dI) vwCl (wR 157 ad (EX cs ad) xi) t.heap) (va_A (wR 157 ad (EX cs ad) mu) H.size)) 0 0 (va_A (wR 157 ad (EX cs ad) mu) H.size) := by
  refine Met.ofW (cc := cX11_can) (maxL := 3) (ret := (some .int)) (by decide) rfl ?_
  intro p e s m args below meth c s₁ B hml hv
  obtain ⟨rfl, hh, hK, hz⟩ := hv
  have hx := B.exec
  have hb := B.bytes
  have hr := B.returns
  have hts := atoms_spec (ws := (wU yX11_can cX11_can 3 (some .int))) B.pre
  have hown : s.vm.findClass RX11 = some m.cls := findClass_of_methodNamed B.named
  have hlocks := B.notSynchronized
  subst hh
  have hD := hD0.self (sz := s.heap.size)
  have hA : ∀ q : Nat, s.heap.size ≤ q → (va_A (wR 157 ad (EX cs ad) mu) s.heap.size) q := fun q h => Or.inr h
  have hS : va_S (va_A (wR 157 ad (EX cs ad) mu) s.heap.size) s.heap s.heap [] := va_S.rf
  have hl := lv_entry ([.ref (ad 0), .int vk]) (n := 3) (Nat.le_of_ble_eq_true rfl)
  rw [lg_entry_eq]
  generalize (lg_sl ([.ref (ad 0), .int vk]) ++ List.replicate (3 - (lg_sl ([.ref (ad 0), .int vk])).length) Slot.unset).toArray = ls at hl ⊢
  have hl : lv_has ls 3 [(0, .ref (ad 0)), (1, .int vk)] := hl
  obtain ⟨fz, hfz⟩ : ∃ z, F_qx_can mu vk = z := ⟨_, rfl⟩
  have hF := hfz
  unfold F_qx_can at hF
  refine lv_aload_n hx hb dX11_can_0 rfl (lv_at hl 0 rfl) ?_
  refine lv_iload_n hx hb dX11_can_1 rfl (lv_at hl 1 rfl) ?_
  refine lv_iconst (v := 0) hx hb dX11_can_2 (by decide) ?_
  have hFc := fr_all (wR_D mu hD) hS hA
  refine va_calli (va_runV (As := [.int vk, .int 0]) (rest := []) ⟨hx, hb, hml, hown, hts⟩ (sx_refusedLetter l dC dI cs ad mu ok s.heap hP ((wR_D mu hD).weaken (fun _ _ _ _ => trivial)) vk 0) (cwV 2 hts (wU_V mw_3_157 mw_3_154 mw_3_156 mw_0_8 mw_1_1) rfl rfl rfl (by decide +kernel) ⟨Nat.le_of_ble_eq_true rfl, Nat.le_of_ble_eq_true rfl⟩) ⟨sz_c, va_recv hK hP (ci := 11) (q0 := 0) rfl (gX_0 cs ad mu), sz_m hK hz⟩ rfl rfl hl.1 rfl (lv_room (Nat.le_of_ble_eq_true rfl)) dX11_can_3 ⟨Nat.zero_le _, Nat.zero_le _⟩) hS (fun q _ h => hFc q h) hFc (fun r1 xi1 t H1 locs ht hvm hw1 hB hz1 hk1 hS => ?_)
  have hP : va_P (dC, dI) vwCl (wR 157 ad (EX cs ad) xi1) H1 := by rw [← ht]; exact hB
  obtain ⟨hfe1, hw1⟩ := hw1
  have hF := mi_letp hF hfe1
  rcases hw1 with ⟨rfl, hxi1, f1⟩ | ⟨z1, ok, hkp1_0⟩
  · have hF := (if_pos rfl).symm.trans hF
    have hP : va_P (dC, dI) vwCl (wR 157 ad (EX cs ad) mu) H1 := by rw [← hxi1]; exact hP
    have f1 : 0 ≤ vk.toInt ∧ vk.toInt < (mu 5 4).toInt ∧ (mu 5 4).toInt ≤ 4 ∧ (0 : Int) = 0 := f1
    refine lv_istore_n (lv' := [(2, .int 0), (0, .ref (ad 0)), (1, .int vk)]) hx hb dX11_can_6 rfl hl (by decide) rfl (fun ls hl => ?_)
    refine lv_iload_n hx hb dX11_can_7 rfl (lv_at hl 0 rfl) ?_
    refine lv_if_eq (tgt := 13) hx hb dX11_can_8 (by decide) (fun _ => ?_) (fun c => absurd (by decide) c)
    refine lv_aload_n hx hb dX11_can_13 rfl (lv_at hl 1 rfl) ?_
    refine va_get (D := (dC, dI)) (ci := 11) (v := .ref (ad 4)) (C := RX11) (T := TX11) (N := 11) hx hb hts inG11 hown hK hP 0 (gX_0 cs ad mu) rfl 3 (by decide) (hts _ (List.mem_cons_of_mem _ mw_2_161)) (fun _ h9 => h9) rfl dX11_can_14 ?_
    refine lv_aload_n hx hb dX11_can_17 rfl (lv_at hl 1 rfl) ?_
    refine va_get (D := (dC, dI)) (ci := 11) (v := .ref (ad 4)) (C := RX11) (T := TX11) (N := 11) hx hb hts inG11 hown hK hP 0 (gX_0 cs ad mu) rfl 3 (by decide) (hts _ (List.mem_cons_of_mem _ mw_2_161)) (fun _ h9 => h9) rfl dX11_can_18 ?_
    refine va_get (D := (dC, dI)) (ci := 10) (v := .ref (ad 5)) (C := RX10) (T := TX10) (N := 8) hx hb hts inG10 hown hK hP 4 (gX_4 cs ad mu) rfl 3 (by decide) (hts _ (List.mem_cons_of_mem _ mw_1_157)) (fun _ h9 => h9) rfl dX11_can_21 ?_
    refine va_get (D := (dC, dI)) (ci := 8) (v := .ref (ad 47)) (C := RX8) (T := TX8) (N := 6) hx hb hts inG8 hown hK hP 5 (gX_5 cs ad mu) rfl 1 (by decide) (hts _ (List.mem_cons_of_mem _ mw_1_112)) (fun _ h9 => h9) rfl dX11_can_24 ?_
    refine lv_iload_n hx hb dX11_can_27 rfl (lv_at hl 2 rfl) ?_
    have hx3 : 0 ≤ vk.toInt ∧ vk.toInt < ((4 : Nat) : Int) := ⟨by omega, by omega⟩
    refine va_aldq hx hb hK hP 47 5 (gX_47 cs ad mu) rfl (show vp_in vk 4 from vi_of hx3.1 hx3.2) dX11_can_28 ?_
    have hk3 : 61 ≤ (61 + vk.toNatClampNeg) ∧ (61 + vk.toNatClampNeg) < 65 := ix_of hx3
    have hk3 : 61 ≤ (61 + vk.toNatClampNeg) ∧ (61 + vk.toNatClampNeg) < 77 := ⟨Nat.le_trans (by decide) hk3.1, Nat.lt_of_lt_of_le hk3.2 (by decide)⟩
    refine lq_v (.ref (ad (61 + vk.toNatClampNeg))) rfl ?_
    refine cr_i (va_runV (As := [.ref (ad (61 + vk.toNatClampNeg))]) (rest := []) ⟨hx, hb, hml, hown, hts⟩ (sx_buyersOf l dC dI cs ad mu ok H1 hP (61 + vk.toNatClampNeg) hk3.1 hk3.2) (cwV 1 hts (wU_V mw_3_161 mw_3_158 mw_3_159 mw_3_160 mw_1_2) rfl rfl rfl (by decide +kernel) ⟨Nat.le_of_ble_eq_true rfl, Nat.le_of_ble_eq_true rfl⟩) ⟨sz_c, va_recv hK hP (ci := 10) (q0 := 4) rfl (gX_4 cs ad mu), sz_m hK hz⟩ rfl rfl hl.1 rfl (lv_room (Nat.le_of_ble_eq_true rfl)) dX11_can_29 ⟨Nat.zero_le _, Nat.zero_le _⟩) hS (fun r4 hw4 locs hS => ?_)
    obtain ⟨hfe4, hw4⟩ := hw4
    have hF := mi_let hF hfe4
    exact W.iret (v := r4) hx hb hr (fun t ht hW => ⟨⟨r4, mu, rfl, ⟨hF.trans hfz.symm, ok, trivial, (fun _ _ _ => rfl)⟩, by first | (subst ht; exact hP) | (rw [ht]; exact hP) | (show va_P (dC, dI) vwCl (wR 157 ad (EX cs ad) mu) t.heap; rw [ht]; exact hP)⟩, hS.F ht⟩) hS.2.2 dX11_can_32
  · have hF := (if_neg (show ¬ r1 = 0 from fun h => by have h9 := congrArg Int32.toInt h; have h8 : (0 : Int32).toInt = 0 := rfl; omega)).symm.trans hF
    have kp2 : (∀ k f : Nat, Nat.testBit 510 (gpX k f) = true → xi1 k f = mu k f) := kp_t hkp1_0 (by decide) (fun _ _ _ => rfl)
    skip
    refine lv_istore_n (lv' := [(2, .int r1), (0, .ref (ad 0)), (1, .int vk)]) hx hb dX11_can_6 rfl hl (by decide) rfl (fun ls hl => ?_)
    refine lv_iload_n hx hb dX11_can_7 rfl (lv_at hl 0 rfl) ?_
    refine lv_if_eq (tgt := 13) hx hb dX11_can_8 (by decide) (fun c_5 => by have c_5 : r1.toInt = 0 := il_eq c_5; exfalso; omega) (fun c_5 => ?_)
    have c_5 : ¬ r1.toInt = 0 := il_ne c_5
    refine lv_iload_n hx hb dX11_can_11 rfl (lv_at hl 0 rfl) ?_
    exact W.iret (v := r1) hx hb hr (fun t ht hW => ⟨⟨r1, xi1, rfl, ⟨hF.trans hfz.symm, ok, trivial, kp2⟩, by first | (subst ht; exact hP) | (rw [ht]; exact hP) | (show va_P (dC, dI) vwCl (wR 157 ad (EX cs ad) xi1) t.heap; rw [ht]; exact hP)⟩, hS.F ht⟩) hS.2.2 dX11_can_12
set_option maxHeartbeats 4000000 in
set_option maxRecDepth 100000 in
/-- qx_undo -/
theorem qx_undo (l : Launch) (dC : Nat → ClassId) (dI : Nat → Nat → Nat) (cs : Nat → ClassId) (ad : Nat → Nat) (mu : Nat → Nat → Int32) (ok : okR loX hiX mu) (H : Heap) (hP : va_P (dC, dI) vwCl (wR 157 ad (EX cs ad) mu) H) (hD0 : va_D (fun _ => True) (wR 157 ad (EX cs ad) mu)) (vn : Int32) : Met l yX11_undo (wU yX11_undo cX11_undo 4 (some .int)) ({ frames := 2, cells := 0, slots := 0, locals := 83 }) (va_Pc [.ref (ad 0), .int vn] (sz_P (dC, dI) vwCl (tyW cs) H)) (va_Qi (fun (z : Int32) (xi : Nat → Nat → Int32) => (z, xi) = F_qx_undo mu vn ∧ okR loX hiX xi ∧ (True) ∧ (∀ k f : Nat, Nat.testBit 486 (gpX k f) = true → xi k f = mu k f)) (fun xi t => va_P (dC, dI) vwCl (wR 157 ad (EX cs ad) xi) t.heap) (va_A (wR 157 ad (EX cs ad) mu) H.size)) 0 0 (va_A (wR 157 ad (EX cs ad) mu) H.size) := by
  refine Met.ofW (cc := cX11_undo) (maxL := 4) (ret := (some .int)) (by decide) rfl ?_
  intro p e s m args below meth c s₁ B hml hv
  obtain ⟨rfl, hh, hK, hz⟩ := hv
  have hx := B.exec
  have hb := B.bytes
  have hr := B.returns
  have hts := atoms_spec (ws := (wU yX11_undo cX11_undo 4 (some .int))) B.pre
  have hown : s.vm.findClass RX11 = some m.cls := findClass_of_methodNamed B.named
  have hlocks := B.notSynchronized
  subst hh
  have hD := hD0.self (sz := s.heap.size)
  have hA : ∀ q : Nat, s.heap.size ≤ q → (va_A (wR 157 ad (EX cs ad) mu) s.heap.size) q := fun q h => Or.inr h
  have hS : va_S (va_A (wR 157 ad (EX cs ad) mu) s.heap.size) s.heap s.heap [] := va_S.rf
  have hl := lv_entry ([.ref (ad 0), .int vn]) (n := 4) (Nat.le_of_ble_eq_true rfl)
  rw [lg_entry_eq]
  generalize (lg_sl ([.ref (ad 0), .int vn]) ++ List.replicate (4 - (lg_sl ([.ref (ad 0), .int vn])).length) Slot.unset).toArray = ls at hl ⊢
  have hl : lv_has ls 4 [(0, .ref (ad 0)), (1, .int vn)] := hl
  obtain ⟨fz, hfz⟩ : ∃ z, F_qx_undo mu vn = z := ⟨_, rfl⟩
  have hF := hfz
  unfold F_qx_undo at hF
  refine lv_iload_n hx hb dX11_undo_0 rfl (lv_at hl 1 rfl) ?_
  refine lv_if_lt (tgt := 15) hx hb dX11_undo_1 (by decide) (fun c_1 => ?_) (fun c_1 => ?_)
  · have hF := (if_pos c_1).symm.trans hF
    have c_1 : vn.toInt < 0 := il_lt c_1
    refine lv_iconst (v := (-1)) hx hb dX11_undo_15 (by decide) ?_
    exact W.iret (v := (-1)) hx hb hr (fun t ht hW => ⟨⟨(-1), mu, rfl, ⟨hF.trans hfz.symm, ok, trivial, (fun _ _ _ => rfl)⟩, by first | (subst ht; exact hP) | (rw [ht]; exact hP) | (show va_P (dC, dI) vwCl (wR 157 ad (EX cs ad) mu) t.heap; rw [ht]; exact hP)⟩, hS.F ht⟩) hS.2.2 dX11_undo_16
  · have hF := (if_neg c_1).symm.trans hF
    have c_1 : 0 ≤ vn.toInt := il_nlt c_1
    refine lv_iload_n hx hb dX11_undo_4 rfl (lv_at hl 1 rfl) ?_
    refine lv_aload_n hx hb dX11_undo_5 rfl (lv_at hl 0 rfl) ?_
    refine va_get (D := (dC, dI)) (ci := 11) (v := .ref (ad 6)) (C := RX11) (T := TX11) (N := 11) hx hb hts inG11 hown hK hP 0 (gX_0 cs ad mu) rfl 5 (by decide) (hts _ (List.mem_cons_of_mem _ mw_2_163)) (fun _ h9 => h9) rfl dX11_undo_6 ?_
    refine va_get (D := (dC, dI)) (ci := 2) (v := .int (mu 6 1)) (C := RX2) (T := TX2) (N := 2) hx hb hts inG2 hown hK hP 6 (gX_6 cs ad mu) rfl 1 (by decide) (hts _ (List.mem_cons_of_mem _ mw_2_8)) (fun _ h9 => h9) rfl dX11_undo_9 ?_
    refine lv_topi (fun y2 ey2 => ?_)
    have hF := mi_let hF ey2
    have by2 : y2.toInt = (mu 6 1).toInt := congrArg Int32.toInt ey2
    have gy2 : 0 ≤ y2.toInt ∧ y2.toInt ≤ 40 := by rw [ey2]; exact rX_6_1 ok
    refine lv_icmp_le (tgt := 17) hx hb dX11_undo_12 (by decide) (fun c_3 => ?_) (fun c_3 => ?_)
    · have hF := (if_pos c_3).symm.trans hF
      have c_3 : vn.toInt ≤ y2.toInt := il_le c_3
      refine lv_aload_n hx hb dX11_undo_17 rfl (lv_at hl 0 rfl) ?_
      refine va_get (D := (dC, dI)) (ci := 11) (v := .ref (ad 6)) (C := RX11) (T := TX11) (N := 11) hx hb hts inG11 hown hK hP 0 (gX_0 cs ad mu) rfl 5 (by decide) (hts _ (List.mem_cons_of_mem _ mw_2_163)) (fun _ h9 => h9) rfl dX11_undo_18 ?_
      refine va_get (D := (dC, dI)) (ci := 2) (v := .int (mu 6 1)) (C := RX2) (T := TX2) (N := 2) hx hb hts inG2 hown hK hP 6 (gX_6 cs ad mu) rfl 1 (by decide) (hts _ (List.mem_cons_of_mem _ mw_2_8)) (fun _ h9 => h9) rfl dX11_undo_21 ?_
      refine lq_i y2 ey2.symm ?_
      refine lv_iload_n hx hb dX11_undo_24 rfl (lv_at hl 1 rfl) ?_
      refine lv_isub hx hb dX11_undo_25 ?_
      refine lv_topi (fun t4 et4 => ?_)
      have hF := mi_let hF et4
      have at4 : t4.toInt = y2.toInt - vn.toInt := by rw [et4]; exact tI_sub (rfl : y2.toInt = _) (rfl : vn.toInt = _) (by omega) (by omega)
      refine lv_istore_n (lv' := [(2, .int t4), (0, .ref (ad 0)), (1, .int vn)]) hx hb dX11_undo_26 rfl hl (by decide) rfl (fun ls hl => ?_)
      refine lv_iconst (v := 0) hx hb dX11_undo_27 (by decide) ?_
      refine lv_istore_n (lv' := [(3, .int 0), (2, .int t4), (0, .ref (ad 0)), (1, .int vn)]) hx hb dX11_undo_28 rfl hl (by decide) rfl (fun ls hl => ?_)
      have loop29 : ∀ (n29 : Nat) (v3_29 : Int32) (nu29_ : Nat → Nat → Int32) (H : Heap) (locs : List Loc) (ls : Array Slot), (40 + 1 - v3_29.toInt).toNat < n29 → (0 ≤ v3_29.toInt ∧ v3_29.toInt ≤ 40) → okR loX hiX nu29_ → va_P (dC, dI) vwCl (wR 157 ad (EX cs ad) nu29_) H → (∀ k f : Nat, Nat.testBit 486 (gpX k f) = true → nu29_ k f = mu k f) → L_qx_undo_29_0 t4 n29 v3_29 nu29_ = fz → va_S (va_A (wR 157 ad (EX cs ad) mu) s.heap.size) s.heap H locs → lv_has ls 4 [(3, .int v3_29), (2, .int t4), (0, .ref (ad 0)), (1, .int vn)] → W p l e (headSpec (wU yX11_undo cX11_undo 4 (some .int)) ({ frames := 2, cells := 0, slots := 0, locals := 83 })).room s m ([.ref (ad 0), .int vn] : List Value).toArray below meth c H locs 0 0 (MQ below (va_Qi (fun (z : Int32) (xi : Nat → Nat → Int32) => (z, xi) = F_qx_undo mu vn ∧ okR loX hiX xi ∧ (True) ∧ (∀ k f : Nat, Nat.testBit 486 (gpX k f) = true → xi k f = mu k f)) (fun xi t => va_P (dC, dI) vwCl (wR 157 ad (EX cs ad) xi) t.heap) (va_A (wR 157 ad (EX cs ad) mu) s.heap.size)) ([.ref (ad 0), .int vn] : List Value).toArray s 0 0 (va_A (wR 157 ad (EX cs ad) mu) s.heap.size)) (F0 m 29 ls []) := by
        intro n29
        induction n29 with
        | zero => intro v3_29 nu29_ H locs ls hm; exact absurd hm (Nat.not_lt_zero _)
        | succ n29 ih29 =>
          intro v3_29 nu29_ H locs ls hm_29 h_v3_29 ok hP kq29_0 hF hS hl
          rw [L_qx_undo_29_0] at hF
          refine lv_iload_n hx hb dX11_undo_29 rfl (lv_at hl 0 rfl) ?_
          refine lv_iload_n hx hb dX11_undo_30 rfl (lv_at hl 1 rfl) ?_
          refine lv_icmp_ge (tgt := 51) hx hb dX11_undo_31 (by decide) (fun c_5 => ?_) (fun c_5 => ?_)
          · have hF := (if_pos c_5).symm.trans hF
            have c_5 : t4.toInt ≤ v3_29.toInt := il_le c_5
            refine lv_iload_n hx hb dX11_undo_51 rfl (lv_at hl 1 rfl) ?_
            exact W.iret (v := t4) hx hb hr (fun t ht hW => ⟨⟨t4, nu29_, rfl, ⟨hF.trans hfz.symm, ok, trivial, kq29_0⟩, by first | (subst ht; exact hP) | (rw [ht]; exact hP) | (show va_P (dC, dI) vwCl (wR 157 ad (EX cs ad) nu29_) t.heap; rw [ht]; exact hP)⟩, hS.F ht⟩) hS.2.2 dX11_undo_52
          · have hF := (if_neg c_5).symm.trans hF
            have c_5 : v3_29.toInt < t4.toInt := il_nle c_5
            refine lv_aload_n hx hb dX11_undo_34 rfl (lv_at hl 2 rfl) ?_
            refine va_get (D := (dC, dI)) (ci := 11) (v := .ref (ad 6)) (C := RX11) (T := TX11) (N := 11) hx hb hts inG11 hown hK hP 0 (gX_0 cs ad nu29_) rfl 5 (by decide) (hts _ (List.mem_cons_of_mem _ mw_2_163)) (fun _ h9 => h9) rfl dX11_undo_35 ?_
            refine lv_aload_n hx hb dX11_undo_38 rfl (lv_at hl 2 rfl) ?_
            refine va_get (D := (dC, dI)) (ci := 11) (v := .ref (ad 4)) (C := RX11) (T := TX11) (N := 11) hx hb hts inG11 hown hK hP 0 (gX_0 cs ad nu29_) rfl 3 (by decide) (hts _ (List.mem_cons_of_mem _ mw_2_161)) (fun _ h9 => h9) rfl dX11_undo_39 ?_
            have hFc := fr_all (wR_D nu29_ hD) hS hA
            refine va_callv (va_runV (As := [.ref (ad 4)]) (rest := []) ⟨hx, hb, hml, hown, hts⟩ (sx_undoLast l dC dI cs ad nu29_ ok H hP ((wR_D nu29_ hD).weaken (fun _ _ _ _ => trivial))) (cwV 1 hts (wU_V mw_3_213 mw_3_210 mw_3_211 mw_3_212 mw_1_6) rfl rfl rfl (by decide +kernel) ⟨Nat.le_of_ble_eq_true rfl, Nat.le_of_ble_eq_true rfl⟩) ⟨sz_c, va_recv hK hP (ci := 2) (q0 := 6) rfl (gX_6 cs ad nu29_), sz_m hK hz⟩ rfl rfl hl.1 rfl (lv_room (Nat.le_of_ble_eq_true rfl)) dX11_undo_42 ⟨Nat.zero_le _, Nat.zero_le _⟩) hS (fun q _ h => hFc q h) hFc (fun xi6 t H6 locs ht hvm hw6 hB hz1 hk1 hS => ?_)
            have hP : va_P (dC, dI) vwCl (wR 157 ad (EX cs ad) xi6) H6 := by rw [← ht]; exact hB
            obtain ⟨hfe6, ok, hw6, hkp6_0⟩ := hw6
            have hF := mi_let hF hfe6
            have kp7 : (∀ k f : Nat, Nat.testBit 486 (gpX k f) = true → xi6 k f = mu k f) := kp_t hkp6_0 (by decide) kq29_0
            refine lv_iinc (v := (v3_29 + 1)) (lv' := [(3, .int (v3_29 + 1)), (2, .int t4), (0, .ref (ad 0)), (1, .int vn)]) hx hb dX11_undo_45 hl (k := 0) rfl rfl (by decide) rfl (fun ls hl => ?_)
            refine loc_gen (P := fun w9 => lv_has ls 4 [(3, .int w9), (2, .int t4), (0, .ref (ad 0)), (1, .int vn)]) (v3_29 + 1) hl (fun w8 hw8 hl => ?_)
            have hl : lv_has ls 4 [(3, .int w8), (2, .int t4), (0, .ref (ad 0)), (1, .int vn)] := hl
            have hF := mi_let hF hw8.symm
            have aw8 : w8.toInt = v3_29.toInt + 1 := by rw [← hw8]; first | exact va1 (Int.lt_of_le_of_lt h_v3_29.2 (by decide)) | exact va1 (by omega)
            refine lv_goto (tgt := 29) hx hb dX11_undo_48 (by decide) ?_
            exact ih29 (w8) xi6 _ _ _ (by first | exact ms_up hm_29 aw8 h_v3_29.2 | exact ms_lt hm_29 (by omega) (by omega) | omega) (by first | exact rg_up aw8 h_v3_29 (by omega) | omega)  ok hP  kp7 hF hS (lv_sub hl [0, 1, 2, 3] rfl)
      exact loop29 43 (0) mu _ _ _ (by have h80 : (0 : Int32).toInt = 0 := rfl; omega) (by have h80 : (0 : Int32).toInt = 0 := rfl; exact ⟨by omega, by omega⟩)  ok hP  (fun _ _ _ => rfl) hF hS hl
    · have hF := (if_neg c_3).symm.trans hF
      have c_3 : y2.toInt < vn.toInt := il_nle c_3
      refine lv_iconst (v := (-1)) hx hb dX11_undo_15 (by decide) ?_
      exact W.iret (v := (-1)) hx hb hr (fun t ht hW => ⟨⟨(-1), mu, rfl, ⟨hF.trans hfz.symm, ok, trivial, (fun _ _ _ => rfl)⟩, by first | (subst ht; exact hP) | (rw [ht]; exact hP) | (show va_P (dC, dI) vwCl (wR 157 ad (EX cs ad) mu) t.heap; rw [ht]; exact hP)⟩, hS.F ht⟩) hS.2.2 dX11_undo_16
set_option maxHeartbeats 4000000 in
set_option maxRecDepth 100000 in
/-- qx_keep -/
theorem qx_keep (l : Launch) (dC : Nat → ClassId) (dI : Nat → Nat → Nat) (cs : Nat → ClassId) (ad : Nat → Nat) (mu : Nat → Nat → Int32) (ok : okR loX hiX mu) (H : Heap) (hP : va_P (dC, dI) vwCl (wR 157 ad (EX cs ad) mu) H) (hD0 : va_D (fun _ => True) (wR 157 ad (EX cs ad) mu)) (vk : Int32) : Met l yX11_keep (wU yX11_keep cX11_keep 2 (some .int)) ({ frames := 2, cells := 0, slots := 0, locals := 82 }) (va_Pc [.ref (ad 0), .int vk] (sz_P (dC, dI) vwCl (tyW cs) H)) (va_Qi (fun (z : Int32) (xi : Nat → Nat → Int32) => (z, xi) = F_qx_keep mu vk ∧ okR loX hiX xi ∧ (True) ∧ (∀ k f : Nat, Nat.testBit 470 (gpX k f) = true → xi k f = mu k f)) (fun xi t => va_P (dC, dI) vwCl (wR 157 ad (EX cs ad) xi) t.heap) (va_A (wR 157 ad (EX cs ad) mu) H.size)) 0 0 (va_A (wR 157 ad (EX cs ad) mu) H.size) := by
  refine Met.ofW (cc := cX11_keep) (maxL := 2) (ret := (some .int)) (by decide) rfl ?_
  intro p e s m args below meth c s₁ B hml hv
  obtain ⟨rfl, hh, hK, hz⟩ := hv
  have hx := B.exec
  have hb := B.bytes
  have hr := B.returns
  have hts := atoms_spec (ws := (wU yX11_keep cX11_keep 2 (some .int))) B.pre
  have hown : s.vm.findClass RX11 = some m.cls := findClass_of_methodNamed B.named
  have hlocks := B.notSynchronized
  subst hh
  have hD := hD0.self (sz := s.heap.size)
  have hA : ∀ q : Nat, s.heap.size ≤ q → (va_A (wR 157 ad (EX cs ad) mu) s.heap.size) q := fun q h => Or.inr h
  have hS : va_S (va_A (wR 157 ad (EX cs ad) mu) s.heap.size) s.heap s.heap [] := va_S.rf
  have hl := lv_entry ([.ref (ad 0), .int vk]) (n := 2) (Nat.le_of_ble_eq_true rfl)
  rw [lg_entry_eq]
  generalize (lg_sl ([.ref (ad 0), .int vk]) ++ List.replicate (2 - (lg_sl ([.ref (ad 0), .int vk])).length) Slot.unset).toArray = ls at hl ⊢
  have hl : lv_has ls 2 [(0, .ref (ad 0)), (1, .int vk)] := hl
  obtain ⟨fz, hfz⟩ : ∃ z, F_qx_keep mu vk = z := ⟨_, rfl⟩
  have hF := hfz
  unfold F_qx_keep at hF
  refine lv_iload_n hx hb dX11_keep_0 rfl (lv_at hl 1 rfl) ?_
  refine cr_i (va_runS (As := [.int vk]) (rest := []) ⟨hx, hb, hml, hown, hts⟩ (sx_isPlace l dC dI (tyW cs) s.heap vk) (va_cwS 1 hts (wU_S mw_3_220 mw_3_218 mw_3_219 mw_1_1) rfl rfl rfl (by decide +kernel) ⟨Nat.le_of_ble_eq_true rfl, Nat.le_of_ble_eq_true rfl⟩) ⟨sz_c, sz_m hK hz⟩ rfl rfl hl.1 rfl (lv_room (Nat.le_of_ble_eq_true rfl)) dX11_keep_1 ⟨Nat.zero_le _, Nat.zero_le _⟩) hS (fun r1 hw1 locs hS => ?_)
  obtain ⟨hfe1, hw1⟩ := hw1
  rcases hw1 with ⟨rfl, f1⟩ | ⟨rfl, f1⟩
  · have hF := (if_pos hfe1.symm).symm.trans hF
    have f1 : 0 ≤ vk.toInt ∧ vk.toInt ≤ 2 := f1
    refine lv_if_ne (tgt := 9) hx hb dX11_keep_4 (by decide) (fun _ => ?_) (fun c => absurd c (by decide))
    refine lv_aload_n hx hb dX11_keep_9 rfl (lv_at hl 0 rfl) ?_
    refine va_get (D := (dC, dI)) (ci := 11) (v := .ref (ad 4)) (C := RX11) (T := TX11) (N := 11) hx hb hts inG11 hown hK hP 0 (gX_0 cs ad mu) rfl 3 (by decide) (hts _ (List.mem_cons_of_mem _ mw_2_161)) (fun _ h9 => h9) rfl dX11_keep_10 ?_
    refine va_get (D := (dC, dI)) (ci := 10) (v := .int (mu 4 6)) (C := RX10) (T := TX10) (N := 8) hx hb hts inG10 hown hK hP 4 (gX_4 cs ad mu) rfl 6 (by decide) (hts _ (List.mem_cons_of_mem _ mw_1_164)) (fun _ h9 => h9) rfl dX11_keep_13 ?_
    refine lv_topi (fun y2 ey2 => ?_)
    have hF := mi_let hF ey2
    have by2 : y2.toInt = (mu 4 6).toInt := congrArg Int32.toInt ey2
    have gy2 : 0 ≤ y2.toInt ∧ y2.toInt ≤ 7 := by rw [ey2]; exact rX_4_6 ok
    refine lv_if_ne (tgt := 22) hx hb dX11_keep_16 (by decide) (fun c_3 => ?_) (fun c_3 => ?_)
    · have hF := (if_neg c_3).symm.trans hF
      have c_3 : ¬ y2.toInt = 0 := il_ne c_3
      rcases (show vk.toInt = 0 ∨ vk.toInt = 1 ∨ vk.toInt = 2 by omega) with hs4 | hs4 | hs4
      · have hs4 : vk = 0 := Int32.toInt_inj.mp (hs4.trans (by decide))
        rw [if_pos hs4] at hF
        have hG4 := hF
        subst hs4
        have hF := hG4
        refine lv_aload_n hx hb dX11_keep_22 rfl (lv_at hl 0 rfl) ?_
        refine va_get (D := (dC, dI)) (ci := 11) (v := .ref (ad 3)) (C := RX11) (T := TX11) (N := 11) hx hb hts inG11 hown hK hP 0 (gX_0 cs ad mu) rfl 2 (by decide) (hts _ (List.mem_cons_of_mem _ mw_2_160)) (fun _ h9 => h9) rfl dX11_keep_23 ?_
        refine lv_iload_n hx hb dX11_keep_26 rfl (lv_at hl 1 rfl) ?_
        refine va_aldq hx hb hK hP 3 4 (gX_3 cs ad mu) rfl (show vp_in 0 3 from (by unfold vp_in; decide)) dX11_keep_27 ?_
        refine lq_v (.ref (ad 18)) rfl ?_
        refine lv_aload_n hx hb dX11_keep_28 rfl (lv_at hl 0 rfl) ?_
        refine va_get (D := (dC, dI)) (ci := 11) (v := .ref (ad 4)) (C := RX11) (T := TX11) (N := 11) hx hb hts inG11 hown hK hP 0 (gX_0 cs ad mu) rfl 3 (by decide) (hts _ (List.mem_cons_of_mem _ mw_2_161)) (fun _ h9 => h9) rfl dX11_keep_29 ?_
        refine va_get (D := (dC, dI)) (ci := 10) (v := .ref (ad 5)) (C := RX10) (T := TX10) (N := 8) hx hb hts inG10 hown hK hP 4 (gX_4 cs ad mu) rfl 3 (by decide) (hts _ (List.mem_cons_of_mem _ mw_1_157)) (fun _ h9 => h9) rfl dX11_keep_32 ?_
        have hFc := fr_all (wR_D mu hD) hS hA
        refine va_callv (va_runV (As := [.ref (ad 5)]) (rest := []) ⟨hx, hb, hml, hown, hts⟩ (sx_Standing_beLike_18_5 l dC dI cs ad mu ok s.heap hP ((wR_D mu hD).weaken (fun _ _ _ _ => trivial))) (cwV 1 hts (wU_V mw_3_224 mw_3_221 mw_3_222 mw_3_223 mw_1_3) rfl rfl rfl (by decide +kernel) ⟨Nat.le_of_ble_eq_true rfl, Nat.le_of_ble_eq_true rfl⟩) ⟨sz_c, va_recv hK hP (ci := 8) (q0 := 18) rfl (gX_18 cs ad mu), sz_m hK hz⟩ rfl rfl hl.1 rfl (lv_room (Nat.le_of_ble_eq_true rfl)) dX11_keep_35 ⟨Nat.zero_le _, Nat.zero_le _⟩) hS (fun q _ h => hFc q h) hFc (fun xi5 t H5 locs ht hvm hw5 hB hz1 hk1 hS => ?_)
        have hP : va_P (dC, dI) vwCl (wR 157 ad (EX cs ad) xi5) H5 := by rw [← ht]; exact hB
        obtain ⟨hfe5, ok, hw5, hkp5_0⟩ := hw5
        have hF := mi_let hF hfe5
        have kp6 : (∀ k f : Nat, Nat.testBit 470 (gpX k f) = true → xi5 k f = mu k f) := kp_t hkp5_0 (by decide) (fun _ _ _ => rfl)
        refine lv_aload_n hx hb dX11_keep_38 rfl (lv_at hl 0 rfl) ?_
        refine va_get (D := (dC, dI)) (ci := 11) (v := .ref (ad 3)) (C := RX11) (T := TX11) (N := 11) hx hb hts inG11 hown hK hP 0 (gX_0 cs ad xi5) rfl 2 (by decide) (hts _ (List.mem_cons_of_mem _ mw_2_160)) (fun _ h9 => h9) rfl dX11_keep_39 ?_
        refine lv_iload_n hx hb dX11_keep_42 rfl (lv_at hl 1 rfl) ?_
        refine va_aldq hx hb hK hP 3 4 (gX_3 cs ad xi5) rfl (show vp_in 0 3 from (by unfold vp_in; decide)) dX11_keep_43 ?_
        refine lq_v (.ref (ad 18)) rfl ?_
        refine lv_iconst (v := 1) hx hb dX11_keep_44 (by decide) ?_
        refine va_put (D := (dC, dI)) (ci := 8) (v := .int 1) (ty := .boolean) (C := RX8) (T := TX8) (N := 6) hx hb hts inG8 tyX8 tyX8_ok nmX8 hown hK hP (wR_D xi5 hD) hS 18 (gX_18 cs ad xi5) rfl 5 (by decide) (hts _ (List.mem_cons_of_mem _ mw_1_129)) (fun _ h9 => h9) rfl (by decide +kernel) (by first | rfl | decide) (by first | rfl | decide) (Nat.le_of_ble_eq_true rfl) dX11_keep_45 (fun H locs hP _ hS => ?_)
        simp only [List.set_cons_succ, List.set_cons_zero] at hP
        refine wr_gen (upd (xi5 18) 5 1) hP ((hX_18_5 cs ad _ _)) (fun nu7 hn7 hP => ?_)
        have hF := mi_let hF hn7.symm
        have ok := tX_18_5 ok hn7 (by have h9 : (1 : Int32).toInt = 1 := rfl; exact ⟨by omega, by omega⟩)
        have kp8 : (∀ k f : Nat, Nat.testBit 470 (gpX k f) = true → nu7 k f = mu k f) := kp_c 5 hn7 (fun _ => rfl) (by decide) kp6
        have ez9 : 1 = nu7 18 5 := up_v hn7
        refine lv_aload_n hx hb dX11_keep_48 rfl (lv_at hl 0 rfl) ?_
        refine va_get (D := (dC, dI)) (ci := 11) (v := .ref (ad 4)) (C := RX11) (T := TX11) (N := 11) hx hb hts inG11 hown hK hP 0 (gX_0 cs ad nu7) rfl 3 (by decide) (hts _ (List.mem_cons_of_mem _ mw_2_161)) (fun _ h9 => h9) rfl dX11_keep_49 ?_
        refine va_get (D := (dC, dI)) (ci := 10) (v := .ref (ad 5)) (C := RX10) (T := TX10) (N := 8) hx hb hts inG10 hown hK hP 4 (gX_4 cs ad nu7) rfl 3 (by decide) (hts _ (List.mem_cons_of_mem _ mw_1_157)) (fun _ h9 => h9) rfl dX11_keep_52 ?_
        refine va_get (D := (dC, dI)) (ci := 8) (v := .int (nu7 5 3)) (C := RX8) (T := TX8) (N := 6) hx hb hts inG8 hown hK hP 5 (gX_5 cs ad nu7) rfl 3 (by decide) (hts _ (List.mem_cons_of_mem _ mw_1_124)) (fun _ h9 => h9) rfl dX11_keep_55 ?_
        refine lv_topi (fun y10 ey10 => ?_)
        have hF := mi_let hF ey10
        have by10 : y10.toInt = (nu7 5 3).toInt := congrArg Int32.toInt ey10
        exact W.iret (v := y10) hx hb hr (fun t ht hW => ⟨⟨y10, nu7, rfl, ⟨hF.trans hfz.symm, ok, trivial, kp8⟩, by first | (subst ht; exact hP) | (rw [ht]; exact hP) | (show va_P (dC, dI) vwCl (wR 157 ad (EX cs ad) nu7) t.heap; rw [ht]; exact hP)⟩, hS.F ht⟩) hS.2.2 dX11_keep_58
      · have hs4 : vk = 1 := Int32.toInt_inj.mp (hs4.trans (by decide))
        rw [if_neg (show ¬ vk = 0 by rw [hs4]; decide)] at hF
        rw [if_pos hs4] at hF
        have hG4 := hF
        subst hs4
        have hF := hG4
        refine lv_aload_n hx hb dX11_keep_22 rfl (lv_at hl 0 rfl) ?_
        refine va_get (D := (dC, dI)) (ci := 11) (v := .ref (ad 3)) (C := RX11) (T := TX11) (N := 11) hx hb hts inG11 hown hK hP 0 (gX_0 cs ad mu) rfl 2 (by decide) (hts _ (List.mem_cons_of_mem _ mw_2_160)) (fun _ h9 => h9) rfl dX11_keep_23 ?_
        refine lv_iload_n hx hb dX11_keep_26 rfl (lv_at hl 1 rfl) ?_
        refine va_aldq hx hb hK hP 3 4 (gX_3 cs ad mu) rfl (show vp_in 1 3 from (by unfold vp_in; decide)) dX11_keep_27 ?_
        refine lq_v (.ref (ad 19)) rfl ?_
        refine lv_aload_n hx hb dX11_keep_28 rfl (lv_at hl 0 rfl) ?_
        refine va_get (D := (dC, dI)) (ci := 11) (v := .ref (ad 4)) (C := RX11) (T := TX11) (N := 11) hx hb hts inG11 hown hK hP 0 (gX_0 cs ad mu) rfl 3 (by decide) (hts _ (List.mem_cons_of_mem _ mw_2_161)) (fun _ h9 => h9) rfl dX11_keep_29 ?_
        refine va_get (D := (dC, dI)) (ci := 10) (v := .ref (ad 5)) (C := RX10) (T := TX10) (N := 8) hx hb hts inG10 hown hK hP 4 (gX_4 cs ad mu) rfl 3 (by decide) (hts _ (List.mem_cons_of_mem _ mw_1_157)) (fun _ h9 => h9) rfl dX11_keep_32 ?_
        have hFc := fr_all (wR_D mu hD) hS hA
        refine va_callv (va_runV (As := [.ref (ad 5)]) (rest := []) ⟨hx, hb, hml, hown, hts⟩ (sx_Standing_beLike_19_5 l dC dI cs ad mu ok s.heap hP ((wR_D mu hD).weaken (fun _ _ _ _ => trivial))) (cwV 1 hts (wU_V mw_3_224 mw_3_221 mw_3_222 mw_3_223 mw_1_3) rfl rfl rfl (by decide +kernel) ⟨Nat.le_of_ble_eq_true rfl, Nat.le_of_ble_eq_true rfl⟩) ⟨sz_c, va_recv hK hP (ci := 8) (q0 := 19) rfl (gX_19 cs ad mu), sz_m hK hz⟩ rfl rfl hl.1 rfl (lv_room (Nat.le_of_ble_eq_true rfl)) dX11_keep_35 ⟨Nat.zero_le _, Nat.zero_le _⟩) hS (fun q _ h => hFc q h) hFc (fun xi11 t H11 locs ht hvm hw11 hB hz1 hk1 hS => ?_)
        have hP : va_P (dC, dI) vwCl (wR 157 ad (EX cs ad) xi11) H11 := by rw [← ht]; exact hB
        obtain ⟨hfe11, ok, hw11, hkp11_0⟩ := hw11
        have hF := mi_let hF hfe11
        have kp12 : (∀ k f : Nat, Nat.testBit 470 (gpX k f) = true → xi11 k f = mu k f) := kp_t hkp11_0 (by decide) (fun _ _ _ => rfl)
        refine lv_aload_n hx hb dX11_keep_38 rfl (lv_at hl 0 rfl) ?_
        refine va_get (D := (dC, dI)) (ci := 11) (v := .ref (ad 3)) (C := RX11) (T := TX11) (N := 11) hx hb hts inG11 hown hK hP 0 (gX_0 cs ad xi11) rfl 2 (by decide) (hts _ (List.mem_cons_of_mem _ mw_2_160)) (fun _ h9 => h9) rfl dX11_keep_39 ?_
        refine lv_iload_n hx hb dX11_keep_42 rfl (lv_at hl 1 rfl) ?_
        refine va_aldq hx hb hK hP 3 4 (gX_3 cs ad xi11) rfl (show vp_in 1 3 from (by unfold vp_in; decide)) dX11_keep_43 ?_
        refine lq_v (.ref (ad 19)) rfl ?_
        refine lv_iconst (v := 1) hx hb dX11_keep_44 (by decide) ?_
        refine va_put (D := (dC, dI)) (ci := 8) (v := .int 1) (ty := .boolean) (C := RX8) (T := TX8) (N := 6) hx hb hts inG8 tyX8 tyX8_ok nmX8 hown hK hP (wR_D xi11 hD) hS 19 (gX_19 cs ad xi11) rfl 5 (by decide) (hts _ (List.mem_cons_of_mem _ mw_1_129)) (fun _ h9 => h9) rfl (by decide +kernel) (by first | rfl | decide) (by first | rfl | decide) (Nat.le_of_ble_eq_true rfl) dX11_keep_45 (fun H locs hP _ hS => ?_)
        simp only [List.set_cons_succ, List.set_cons_zero] at hP
        refine wr_gen (upd (xi11 19) 5 1) hP ((hX_19_5 cs ad _ _)) (fun nu13 hn13 hP => ?_)
        have hF := mi_let hF hn13.symm
        have ok := tX_19_5 ok hn13 (by have h9 : (1 : Int32).toInt = 1 := rfl; exact ⟨by omega, by omega⟩)
        have kp14 : (∀ k f : Nat, Nat.testBit 470 (gpX k f) = true → nu13 k f = mu k f) := kp_c 5 hn13 (fun _ => rfl) (by decide) kp12
        have ez15 : 1 = nu13 19 5 := up_v hn13
        refine lv_aload_n hx hb dX11_keep_48 rfl (lv_at hl 0 rfl) ?_
        refine va_get (D := (dC, dI)) (ci := 11) (v := .ref (ad 4)) (C := RX11) (T := TX11) (N := 11) hx hb hts inG11 hown hK hP 0 (gX_0 cs ad nu13) rfl 3 (by decide) (hts _ (List.mem_cons_of_mem _ mw_2_161)) (fun _ h9 => h9) rfl dX11_keep_49 ?_
        refine va_get (D := (dC, dI)) (ci := 10) (v := .ref (ad 5)) (C := RX10) (T := TX10) (N := 8) hx hb hts inG10 hown hK hP 4 (gX_4 cs ad nu13) rfl 3 (by decide) (hts _ (List.mem_cons_of_mem _ mw_1_157)) (fun _ h9 => h9) rfl dX11_keep_52 ?_
        refine va_get (D := (dC, dI)) (ci := 8) (v := .int (nu13 5 3)) (C := RX8) (T := TX8) (N := 6) hx hb hts inG8 hown hK hP 5 (gX_5 cs ad nu13) rfl 3 (by decide) (hts _ (List.mem_cons_of_mem _ mw_1_124)) (fun _ h9 => h9) rfl dX11_keep_55 ?_
        refine lv_topi (fun y16 ey16 => ?_)
        have hF := mi_let hF ey16
        have by16 : y16.toInt = (nu13 5 3).toInt := congrArg Int32.toInt ey16
        exact W.iret (v := y16) hx hb hr (fun t ht hW => ⟨⟨y16, nu13, rfl, ⟨hF.trans hfz.symm, ok, trivial, kp14⟩, by first | (subst ht; exact hP) | (rw [ht]; exact hP) | (show va_P (dC, dI) vwCl (wR 157 ad (EX cs ad) nu13) t.heap; rw [ht]; exact hP)⟩, hS.F ht⟩) hS.2.2 dX11_keep_58
      · have hs4 : vk = 2 := Int32.toInt_inj.mp (hs4.trans (by decide))
        rw [if_neg (show ¬ vk = 0 by rw [hs4]; decide)] at hF
        rw [if_neg (show ¬ vk = 1 by rw [hs4]; decide)] at hF
        have hG4 := hF
        subst hs4
        have hF := hG4
        refine lv_aload_n hx hb dX11_keep_22 rfl (lv_at hl 0 rfl) ?_
        refine va_get (D := (dC, dI)) (ci := 11) (v := .ref (ad 3)) (C := RX11) (T := TX11) (N := 11) hx hb hts inG11 hown hK hP 0 (gX_0 cs ad mu) rfl 2 (by decide) (hts _ (List.mem_cons_of_mem _ mw_2_160)) (fun _ h9 => h9) rfl dX11_keep_23 ?_
        refine lv_iload_n hx hb dX11_keep_26 rfl (lv_at hl 1 rfl) ?_
        refine va_aldq hx hb hK hP 3 4 (gX_3 cs ad mu) rfl (show vp_in 2 3 from (by unfold vp_in; decide)) dX11_keep_27 ?_
        refine lq_v (.ref (ad 20)) rfl ?_
        refine lv_aload_n hx hb dX11_keep_28 rfl (lv_at hl 0 rfl) ?_
        refine va_get (D := (dC, dI)) (ci := 11) (v := .ref (ad 4)) (C := RX11) (T := TX11) (N := 11) hx hb hts inG11 hown hK hP 0 (gX_0 cs ad mu) rfl 3 (by decide) (hts _ (List.mem_cons_of_mem _ mw_2_161)) (fun _ h9 => h9) rfl dX11_keep_29 ?_
        refine va_get (D := (dC, dI)) (ci := 10) (v := .ref (ad 5)) (C := RX10) (T := TX10) (N := 8) hx hb hts inG10 hown hK hP 4 (gX_4 cs ad mu) rfl 3 (by decide) (hts _ (List.mem_cons_of_mem _ mw_1_157)) (fun _ h9 => h9) rfl dX11_keep_32 ?_
        have hFc := fr_all (wR_D mu hD) hS hA
        refine va_callv (va_runV (As := [.ref (ad 5)]) (rest := []) ⟨hx, hb, hml, hown, hts⟩ (sx_Standing_beLike_20_5 l dC dI cs ad mu ok s.heap hP ((wR_D mu hD).weaken (fun _ _ _ _ => trivial))) (cwV 1 hts (wU_V mw_3_224 mw_3_221 mw_3_222 mw_3_223 mw_1_3) rfl rfl rfl (by decide +kernel) ⟨Nat.le_of_ble_eq_true rfl, Nat.le_of_ble_eq_true rfl⟩) ⟨sz_c, va_recv hK hP (ci := 8) (q0 := 20) rfl (gX_20 cs ad mu), sz_m hK hz⟩ rfl rfl hl.1 rfl (lv_room (Nat.le_of_ble_eq_true rfl)) dX11_keep_35 ⟨Nat.zero_le _, Nat.zero_le _⟩) hS (fun q _ h => hFc q h) hFc (fun xi17 t H17 locs ht hvm hw17 hB hz1 hk1 hS => ?_)
        have hP : va_P (dC, dI) vwCl (wR 157 ad (EX cs ad) xi17) H17 := by rw [← ht]; exact hB
        obtain ⟨hfe17, ok, hw17, hkp17_0⟩ := hw17
        have hF := mi_let hF hfe17
        have kp18 : (∀ k f : Nat, Nat.testBit 470 (gpX k f) = true → xi17 k f = mu k f) := kp_t hkp17_0 (by decide) (fun _ _ _ => rfl)
        refine lv_aload_n hx hb dX11_keep_38 rfl (lv_at hl 0 rfl) ?_
        refine va_get (D := (dC, dI)) (ci := 11) (v := .ref (ad 3)) (C := RX11) (T := TX11) (N := 11) hx hb hts inG11 hown hK hP 0 (gX_0 cs ad xi17) rfl 2 (by decide) (hts _ (List.mem_cons_of_mem _ mw_2_160)) (fun _ h9 => h9) rfl dX11_keep_39 ?_
        refine lv_iload_n hx hb dX11_keep_42 rfl (lv_at hl 1 rfl) ?_
        refine va_aldq hx hb hK hP 3 4 (gX_3 cs ad xi17) rfl (show vp_in 2 3 from (by unfold vp_in; decide)) dX11_keep_43 ?_
        refine lq_v (.ref (ad 20)) rfl ?_
        refine lv_iconst (v := 1) hx hb dX11_keep_44 (by decide) ?_
        refine va_put (D := (dC, dI)) (ci := 8) (v := .int 1) (ty := .boolean) (C := RX8) (T := TX8) (N := 6) hx hb hts inG8 tyX8 tyX8_ok nmX8 hown hK hP (wR_D xi17 hD) hS 20 (gX_20 cs ad xi17) rfl 5 (by decide) (hts _ (List.mem_cons_of_mem _ mw_1_129)) (fun _ h9 => h9) rfl (by decide +kernel) (by first | rfl | decide) (by first | rfl | decide) (Nat.le_of_ble_eq_true rfl) dX11_keep_45 (fun H locs hP _ hS => ?_)
        simp only [List.set_cons_succ, List.set_cons_zero] at hP
        refine wr_gen (upd (xi17 20) 5 1) hP ((hX_20_5 cs ad _ _)) (fun nu19 hn19 hP => ?_)
        have hF := mi_let hF hn19.symm
        have ok := tX_20_5 ok hn19 (by have h9 : (1 : Int32).toInt = 1 := rfl; exact ⟨by omega, by omega⟩)
        have kp20 : (∀ k f : Nat, Nat.testBit 470 (gpX k f) = true → nu19 k f = mu k f) := kp_c 5 hn19 (fun _ => rfl) (by decide) kp18
        have ez21 : 1 = nu19 20 5 := up_v hn19
        refine lv_aload_n hx hb dX11_keep_48 rfl (lv_at hl 0 rfl) ?_
        refine va_get (D := (dC, dI)) (ci := 11) (v := .ref (ad 4)) (C := RX11) (T := TX11) (N := 11) hx hb hts inG11 hown hK hP 0 (gX_0 cs ad nu19) rfl 3 (by decide) (hts _ (List.mem_cons_of_mem _ mw_2_161)) (fun _ h9 => h9) rfl dX11_keep_49 ?_
        refine va_get (D := (dC, dI)) (ci := 10) (v := .ref (ad 5)) (C := RX10) (T := TX10) (N := 8) hx hb hts inG10 hown hK hP 4 (gX_4 cs ad nu19) rfl 3 (by decide) (hts _ (List.mem_cons_of_mem _ mw_1_157)) (fun _ h9 => h9) rfl dX11_keep_52 ?_
        refine va_get (D := (dC, dI)) (ci := 8) (v := .int (nu19 5 3)) (C := RX8) (T := TX8) (N := 6) hx hb hts inG8 hown hK hP 5 (gX_5 cs ad nu19) rfl 3 (by decide) (hts _ (List.mem_cons_of_mem _ mw_1_124)) (fun _ h9 => h9) rfl dX11_keep_55 ?_
        refine lv_topi (fun y22 ey22 => ?_)
        have hF := mi_let hF ey22
        have by22 : y22.toInt = (nu19 5 3).toInt := congrArg Int32.toInt ey22
        exact W.iret (v := y22) hx hb hr (fun t ht hW => ⟨⟨y22, nu19, rfl, ⟨hF.trans hfz.symm, ok, trivial, kp20⟩, by first | (subst ht; exact hP) | (rw [ht]; exact hP) | (show va_P (dC, dI) vwCl (wR 157 ad (EX cs ad) nu19) t.heap; rw [ht]; exact hP)⟩, hS.F ht⟩) hS.2.2 dX11_keep_58
    · have hF := (if_pos c_3).symm.trans hF
      have c_3 : y2.toInt = 0 := il_eq c_3
      refine lv_bipush (v := (-4)) hx hb dX11_keep_19 (by decide) ?_
      exact W.iret (v := (-4)) hx hb hr (fun t ht hW => ⟨⟨(-4), mu, rfl, ⟨hF.trans hfz.symm, ok, trivial, (fun _ _ _ => rfl)⟩, by first | (subst ht; exact hP) | (rw [ht]; exact hP) | (show va_P (dC, dI) vwCl (wR 157 ad (EX cs ad) mu) t.heap; rw [ht]; exact hP)⟩, hS.F ht⟩) hS.2.2 dX11_keep_21
  · have hF := (if_neg (fun h => absurd (hfe1.trans h) (by decide))).symm.trans hF
    have f1 : vk.toInt < 0 ∨ 2 < vk.toInt := f1
    refine lv_if_ne (tgt := 9) hx hb dX11_keep_4 (by decide) (fun c => absurd (by decide) c) (fun _ => ?_)
    refine lv_iconst (v := (-1)) hx hb dX11_keep_7 (by decide) ?_
    exact W.iret (v := (-1)) hx hb hr (fun t ht hW => ⟨⟨(-1), mu, rfl, ⟨hF.trans hfz.symm, ok, trivial, (fun _ _ _ => rfl)⟩, by first | (subst ht; exact hP) | (rw [ht]; exact hP) | (show va_P (dC, dI) vwCl (wR 157 ad (EX cs ad) mu) t.heap; rw [ht]; exact hP)⟩, hS.F ht⟩) hS.2.2 dX11_keep_8
set_option maxHeartbeats 4000000 in
set_option maxRecDepth 100000 in
/-- qx_on -/
theorem qx_on (l : Launch) (dC : Nat → ClassId) (dI : Nat → Nat → Nat) (cs : Nat → ClassId) (ad : Nat → Nat) (mu : Nat → Nat → Int32) (ok : okR loX hiX mu) (H : Heap) (hP : va_P (dC, dI) vwCl (wR 157 ad (EX cs ad) mu) H) (hD0 : va_D (fun _ => True) (wR 157 ad (EX cs ad) mu)) (vk : Int32) : Met l yX11_on (wU yX11_on cX11_on 2 (some .int)) ({ frames := 2, cells := 0, slots := 0, locals := 82 }) (va_Pc [.ref (ad 0), .int vk] (sz_P (dC, dI) vwCl (tyW cs) H)) (va_Qi (fun (z : Int32) (xi : Nat → Nat → Int32) => (z, xi) = F_qx_on mu vk ∧ okR loX hiX xi ∧ (True) ∧ (∀ k f : Nat, Nat.testBit 38 (gpX k f) = true → xi k f = mu k f)) (fun xi t => va_P (dC, dI) vwCl (wR 157 ad (EX cs ad) xi) t.heap) (va_A (wR 157 ad (EX cs ad) mu) H.size)) 0 0 (va_A (wR 157 ad (EX cs ad) mu) H.size) := by
  refine Met.ofW (cc := cX11_on) (maxL := 2) (ret := (some .int)) (by decide) rfl ?_
  intro p e s m args below meth c s₁ B hml hv
  obtain ⟨rfl, hh, hK, hz⟩ := hv
  have hx := B.exec
  have hb := B.bytes
  have hr := B.returns
  have hts := atoms_spec (ws := (wU yX11_on cX11_on 2 (some .int))) B.pre
  have hown : s.vm.findClass RX11 = some m.cls := findClass_of_methodNamed B.named
  have hlocks := B.notSynchronized
  subst hh
  have hD := hD0.self (sz := s.heap.size)
  have hA : ∀ q : Nat, s.heap.size ≤ q → (va_A (wR 157 ad (EX cs ad) mu) s.heap.size) q := fun q h => Or.inr h
  have hS : va_S (va_A (wR 157 ad (EX cs ad) mu) s.heap.size) s.heap s.heap [] := va_S.rf
  have hl := lv_entry ([.ref (ad 0), .int vk]) (n := 2) (Nat.le_of_ble_eq_true rfl)
  rw [lg_entry_eq]
  generalize (lg_sl ([.ref (ad 0), .int vk]) ++ List.replicate (2 - (lg_sl ([.ref (ad 0), .int vk])).length) Slot.unset).toArray = ls at hl ⊢
  have hl : lv_has ls 2 [(0, .ref (ad 0)), (1, .int vk)] := hl
  obtain ⟨fz, hfz⟩ : ∃ z, F_qx_on mu vk = z := ⟨_, rfl⟩
  have hF := hfz
  unfold F_qx_on at hF
  refine lv_iload_n hx hb dX11_on_0 rfl (lv_at hl 1 rfl) ?_
  refine cr_i (va_runS (As := [.int vk]) (rest := []) ⟨hx, hb, hml, hown, hts⟩ (sx_isPlace l dC dI (tyW cs) s.heap vk) (va_cwS 1 hts (wU_S mw_3_220 mw_3_218 mw_3_219 mw_1_1) rfl rfl rfl (by decide +kernel) ⟨Nat.le_of_ble_eq_true rfl, Nat.le_of_ble_eq_true rfl⟩) ⟨sz_c, sz_m hK hz⟩ rfl rfl hl.1 rfl (lv_room (Nat.le_of_ble_eq_true rfl)) dX11_on_1 ⟨Nat.zero_le _, Nat.zero_le _⟩) hS (fun r1 hw1 locs hS => ?_)
  obtain ⟨hfe1, hw1⟩ := hw1
  rcases hw1 with ⟨rfl, f1⟩ | ⟨rfl, f1⟩
  · have hF := (if_pos hfe1.symm).symm.trans hF
    have f1 : 0 ≤ vk.toInt ∧ vk.toInt ≤ 2 := f1
    refine lv_if_ne (tgt := 9) hx hb dX11_on_4 (by decide) (fun _ => ?_) (fun c => absurd c (by decide))
    rcases (show vk.toInt = 0 ∨ vk.toInt = 1 ∨ vk.toInt = 2 by omega) with hs2 | hs2 | hs2
    · have hs2 : vk = 0 := Int32.toInt_inj.mp (hs2.trans (by decide))
      rw [if_pos hs2] at hF
      have hG2 := hF
      subst hs2
      have hF := hG2
      refine lv_aload_n hx hb dX11_on_9 rfl (lv_at hl 0 rfl) ?_
      refine va_get (D := (dC, dI)) (ci := 11) (v := .ref (ad 3)) (C := RX11) (T := TX11) (N := 11) hx hb hts inG11 hown hK hP 0 (gX_0 cs ad mu) rfl 2 (by decide) (hts _ (List.mem_cons_of_mem _ mw_2_160)) (fun _ h9 => h9) rfl dX11_on_10 ?_
      refine lv_iload_n hx hb dX11_on_13 rfl (lv_at hl 1 rfl) ?_
      refine va_aldq hx hb hK hP 3 4 (gX_3 cs ad mu) rfl (show vp_in 0 3 from (by unfold vp_in; decide)) dX11_on_14 ?_
      refine lq_v (.ref (ad 18)) rfl ?_
      refine va_get (D := (dC, dI)) (ci := 8) (v := .int (mu 18 5)) (C := RX8) (T := TX8) (N := 6) hx hb hts inG8 hown hK hP 18 (gX_18 cs ad mu) rfl 5 (by decide) (hts _ (List.mem_cons_of_mem _ mw_1_129)) (fun _ h9 => h9) rfl dX11_on_15 ?_
      refine lv_topi (fun y3 ey3 => ?_)
      have hF := mi_let hF ey3
      have by3 : y3.toInt = (mu 18 5).toInt := congrArg Int32.toInt ey3
      have gy3 : 0 ≤ y3.toInt ∧ y3.toInt ≤ 1 := by rw [ey3]; exact rX_18_5 ok
      refine lv_if_ne (tgt := 27) hx hb dX11_on_18 (by decide) (fun c_4 => ?_) (fun c_4 => ?_)
      · have hF := (if_neg c_4).symm.trans hF
        have c_4 : ¬ y3.toInt = 0 := il_ne c_4
        refine lv_aload_n hx hb dX11_on_27 rfl (lv_at hl 0 rfl) ?_
        refine va_get (D := (dC, dI)) (ci := 11) (v := .ref (ad 4)) (C := RX11) (T := TX11) (N := 11) hx hb hts inG11 hown hK hP 0 (gX_0 cs ad mu) rfl 3 (by decide) (hts _ (List.mem_cons_of_mem _ mw_2_161)) (fun _ h9 => h9) rfl dX11_on_28 ?_
        refine va_get (D := (dC, dI)) (ci := 10) (v := .ref (ad 5)) (C := RX10) (T := TX10) (N := 8) hx hb hts inG10 hown hK hP 4 (gX_4 cs ad mu) rfl 3 (by decide) (hts _ (List.mem_cons_of_mem _ mw_1_157)) (fun _ h9 => h9) rfl dX11_on_31 ?_
        refine lv_aload_n hx hb dX11_on_34 rfl (lv_at hl 0 rfl) ?_
        refine va_get (D := (dC, dI)) (ci := 11) (v := .ref (ad 3)) (C := RX11) (T := TX11) (N := 11) hx hb hts inG11 hown hK hP 0 (gX_0 cs ad mu) rfl 2 (by decide) (hts _ (List.mem_cons_of_mem _ mw_2_160)) (fun _ h9 => h9) rfl dX11_on_35 ?_
        refine lv_iload_n hx hb dX11_on_38 rfl (lv_at hl 1 rfl) ?_
        refine va_aldq hx hb hK hP 3 4 (gX_3 cs ad mu) rfl (show vp_in 0 3 from (by unfold vp_in; decide)) dX11_on_39 ?_
        refine lq_v (.ref (ad 18)) rfl ?_
        have hFc := fr_all (wR_D mu hD) hS hA
        refine va_callv (va_runV (As := [.ref (ad 18)]) (rest := []) ⟨hx, hb, hml, hown, hts⟩ (sx_Standing_beLike_5_18 l dC dI cs ad mu ok s.heap hP ((wR_D mu hD).weaken (fun _ _ _ _ => trivial))) (cwV 1 hts (wU_V mw_3_224 mw_3_221 mw_3_222 mw_3_223 mw_1_3) rfl rfl rfl (by decide +kernel) ⟨Nat.le_of_ble_eq_true rfl, Nat.le_of_ble_eq_true rfl⟩) ⟨sz_c, va_recv hK hP (ci := 8) (q0 := 5) rfl (gX_5 cs ad mu), sz_m hK hz⟩ rfl rfl hl.1 rfl (lv_room (Nat.le_of_ble_eq_true rfl)) dX11_on_40 ⟨Nat.zero_le _, Nat.zero_le _⟩) hS (fun q _ h => hFc q h) hFc (fun xi5 t H5 locs ht hvm hw5 hB hz1 hk1 hS => ?_)
        have hP : va_P (dC, dI) vwCl (wR 157 ad (EX cs ad) xi5) H5 := by rw [← ht]; exact hB
        obtain ⟨hfe5, ok, hw5, hkp5_0⟩ := hw5
        have hF := mi_let hF hfe5
        have kp6 : (∀ k f : Nat, Nat.testBit 38 (gpX k f) = true → xi5 k f = mu k f) := kp_t hkp5_0 (by decide) (fun _ _ _ => rfl)
        refine lv_aload_n hx hb dX11_on_43 rfl (lv_at hl 0 rfl) ?_
        refine va_get (D := (dC, dI)) (ci := 11) (v := .ref (ad 6)) (C := RX11) (T := TX11) (N := 11) hx hb hts inG11 hown hK hP 0 (gX_0 cs ad xi5) rfl 5 (by decide) (hts _ (List.mem_cons_of_mem _ mw_2_163)) (fun _ h9 => h9) rfl dX11_on_44 ?_
        refine lv_iconst (v := 0) hx hb dX11_on_47 (by decide) ?_
        refine va_put (D := (dC, dI)) (ci := 2) (v := .int 0) (ty := .int) (C := RX2) (T := TX2) (N := 2) hx hb hts inG2 tyX2 tyX2_ok nmX2 hown hK hP (wR_D xi5 hD) hS 6 (gX_6 cs ad xi5) rfl 1 (by decide) (hts _ (List.mem_cons_of_mem _ mw_2_8)) (fun _ h9 => h9) rfl (by decide +kernel) rfl rfl (Nat.le_of_ble_eq_true rfl) dX11_on_48 (fun H locs hP _ hS => ?_)
        simp only [List.set_cons_succ, List.set_cons_zero] at hP
        refine wr_gen (upd (xi5 6) 1 0) hP ((hX_6_1 cs ad _ _)) (fun nu7 hn7 hP => ?_)
        have hF := mi_let hF hn7.symm
        have ok := tX_6_1 ok hn7 (by have h9 : (0 : Int32).toInt = 0 := rfl; exact ⟨by omega, by omega⟩)
        have kp8 : (∀ k f : Nat, Nat.testBit 38 (gpX k f) = true → nu7 k f = mu k f) := kp_c 4 hn7 (fun _ => rfl) (by decide) kp6
        have ez9 : 0 = nu7 6 1 := up_v hn7
        refine lv_aload_n hx hb dX11_on_51 rfl (lv_at hl 0 rfl) ?_
        refine va_get (D := (dC, dI)) (ci := 11) (v := .ref (ad 4)) (C := RX11) (T := TX11) (N := 11) hx hb hts inG11 hown hK hP 0 (gX_0 cs ad nu7) rfl 3 (by decide) (hts _ (List.mem_cons_of_mem _ mw_2_161)) (fun _ h9 => h9) rfl dX11_on_52 ?_
        refine va_get (D := (dC, dI)) (ci := 10) (v := .ref (ad 5)) (C := RX10) (T := TX10) (N := 8) hx hb hts inG10 hown hK hP 4 (gX_4 cs ad nu7) rfl 3 (by decide) (hts _ (List.mem_cons_of_mem _ mw_1_157)) (fun _ h9 => h9) rfl dX11_on_55 ?_
        refine va_get (D := (dC, dI)) (ci := 8) (v := .int (nu7 5 3)) (C := RX8) (T := TX8) (N := 6) hx hb hts inG8 hown hK hP 5 (gX_5 cs ad nu7) rfl 3 (by decide) (hts _ (List.mem_cons_of_mem _ mw_1_124)) (fun _ h9 => h9) rfl dX11_on_58 ?_
        refine lv_topi (fun y10 ey10 => ?_)
        have hF := mi_let hF ey10
        have by10 : y10.toInt = (nu7 5 3).toInt := congrArg Int32.toInt ey10
        exact W.iret (v := y10) hx hb hr (fun t ht hW => ⟨⟨y10, nu7, rfl, ⟨hF.trans hfz.symm, ok, trivial, kp8⟩, by first | (subst ht; exact hP) | (rw [ht]; exact hP) | (show va_P (dC, dI) vwCl (wR 157 ad (EX cs ad) nu7) t.heap; rw [ht]; exact hP)⟩, hS.F ht⟩) hS.2.2 dX11_on_61
      · have hF := (if_pos c_4).symm.trans hF
        have c_4 : y3.toInt = 0 := il_eq c_4
        refine lv_aload_n hx hb dX11_on_21 rfl (lv_at hl 0 rfl) ?_
        refine lv_iconst (v := 1) hx hb dX11_on_22 (by decide) ?_
        have hFc := fr_all (wR_D mu hD) hS hA
        refine va_calli (va_runV (As := [.int 1]) (rest := []) ⟨hx, hb, hml, hown, hts⟩ (sx_found l dC dI cs ad mu ok s.heap hP ((wR_D mu hD).weaken (fun _ _ _ _ => trivial)) 1 (by have h50 : (1 : Int32).toInt = 1 := rfl; omega)) (cwV 1 hts (wU_V mw_2_202 mw_2_199 mw_2_201 mw_0_0 mw_1_1) rfl rfl rfl (by decide +kernel) ⟨Nat.le_of_ble_eq_true rfl, Nat.le_of_ble_eq_true rfl⟩) ⟨sz_c, va_recv hK hP (ci := 11) (q0 := 0) rfl (gX_0 cs ad mu), sz_m hK hz⟩ rfl rfl hl.1 rfl (lv_room (Nat.le_of_ble_eq_true rfl)) dX11_on_23 ⟨Nat.zero_le _, Nat.zero_le _⟩) hS (fun q _ h => hFc q h) hFc (fun r11 xi11 t H11 locs ht hvm hw11 hB hz1 hk1 hS => ?_)
        have hP : va_P (dC, dI) vwCl (wR 157 ad (EX cs ad) xi11) H11 := by rw [← ht]; exact hB
        obtain ⟨hfe11, ok, hw11, hkp11_0⟩ := hw11
        have hF := mi_letp hF hfe11
        have kp12 : (∀ k f : Nat, Nat.testBit 38 (gpX k f) = true → xi11 k f = mu k f) := kp_t hkp11_0 (by decide) (fun _ _ _ => rfl)
        have gr11 : -3 ≤ r11.toInt ∧ r11.toInt ≤ -3 := hw11
        exact W.iret (v := r11) hx hb hr (fun t ht hW => ⟨⟨r11, xi11, rfl, ⟨hF.trans hfz.symm, ok, trivial, kp12⟩, by first | (subst ht; exact hP) | (rw [ht]; exact hP) | (show va_P (dC, dI) vwCl (wR 157 ad (EX cs ad) xi11) t.heap; rw [ht]; exact hP)⟩, hS.F ht⟩) hS.2.2 dX11_on_26
    · have hs2 : vk = 1 := Int32.toInt_inj.mp (hs2.trans (by decide))
      rw [if_neg (show ¬ vk = 0 by rw [hs2]; decide)] at hF
      rw [if_pos hs2] at hF
      have hG2 := hF
      subst hs2
      have hF := hG2
      refine lv_aload_n hx hb dX11_on_9 rfl (lv_at hl 0 rfl) ?_
      refine va_get (D := (dC, dI)) (ci := 11) (v := .ref (ad 3)) (C := RX11) (T := TX11) (N := 11) hx hb hts inG11 hown hK hP 0 (gX_0 cs ad mu) rfl 2 (by decide) (hts _ (List.mem_cons_of_mem _ mw_2_160)) (fun _ h9 => h9) rfl dX11_on_10 ?_
      refine lv_iload_n hx hb dX11_on_13 rfl (lv_at hl 1 rfl) ?_
      refine va_aldq hx hb hK hP 3 4 (gX_3 cs ad mu) rfl (show vp_in 1 3 from (by unfold vp_in; decide)) dX11_on_14 ?_
      refine lq_v (.ref (ad 19)) rfl ?_
      refine va_get (D := (dC, dI)) (ci := 8) (v := .int (mu 19 5)) (C := RX8) (T := TX8) (N := 6) hx hb hts inG8 hown hK hP 19 (gX_19 cs ad mu) rfl 5 (by decide) (hts _ (List.mem_cons_of_mem _ mw_1_129)) (fun _ h9 => h9) rfl dX11_on_15 ?_
      refine lv_topi (fun y13 ey13 => ?_)
      have hF := mi_let hF ey13
      have by13 : y13.toInt = (mu 19 5).toInt := congrArg Int32.toInt ey13
      have gy13 : 0 ≤ y13.toInt ∧ y13.toInt ≤ 1 := by rw [ey13]; exact rX_19_5 ok
      refine lv_if_ne (tgt := 27) hx hb dX11_on_18 (by decide) (fun c_14 => ?_) (fun c_14 => ?_)
      · have hF := (if_neg c_14).symm.trans hF
        have c_14 : ¬ y13.toInt = 0 := il_ne c_14
        refine lv_aload_n hx hb dX11_on_27 rfl (lv_at hl 0 rfl) ?_
        refine va_get (D := (dC, dI)) (ci := 11) (v := .ref (ad 4)) (C := RX11) (T := TX11) (N := 11) hx hb hts inG11 hown hK hP 0 (gX_0 cs ad mu) rfl 3 (by decide) (hts _ (List.mem_cons_of_mem _ mw_2_161)) (fun _ h9 => h9) rfl dX11_on_28 ?_
        refine va_get (D := (dC, dI)) (ci := 10) (v := .ref (ad 5)) (C := RX10) (T := TX10) (N := 8) hx hb hts inG10 hown hK hP 4 (gX_4 cs ad mu) rfl 3 (by decide) (hts _ (List.mem_cons_of_mem _ mw_1_157)) (fun _ h9 => h9) rfl dX11_on_31 ?_
        refine lv_aload_n hx hb dX11_on_34 rfl (lv_at hl 0 rfl) ?_
        refine va_get (D := (dC, dI)) (ci := 11) (v := .ref (ad 3)) (C := RX11) (T := TX11) (N := 11) hx hb hts inG11 hown hK hP 0 (gX_0 cs ad mu) rfl 2 (by decide) (hts _ (List.mem_cons_of_mem _ mw_2_160)) (fun _ h9 => h9) rfl dX11_on_35 ?_
        refine lv_iload_n hx hb dX11_on_38 rfl (lv_at hl 1 rfl) ?_
        refine va_aldq hx hb hK hP 3 4 (gX_3 cs ad mu) rfl (show vp_in 1 3 from (by unfold vp_in; decide)) dX11_on_39 ?_
        refine lq_v (.ref (ad 19)) rfl ?_
        have hFc := fr_all (wR_D mu hD) hS hA
        refine va_callv (va_runV (As := [.ref (ad 19)]) (rest := []) ⟨hx, hb, hml, hown, hts⟩ (sx_Standing_beLike_5_19 l dC dI cs ad mu ok s.heap hP ((wR_D mu hD).weaken (fun _ _ _ _ => trivial))) (cwV 1 hts (wU_V mw_3_224 mw_3_221 mw_3_222 mw_3_223 mw_1_3) rfl rfl rfl (by decide +kernel) ⟨Nat.le_of_ble_eq_true rfl, Nat.le_of_ble_eq_true rfl⟩) ⟨sz_c, va_recv hK hP (ci := 8) (q0 := 5) rfl (gX_5 cs ad mu), sz_m hK hz⟩ rfl rfl hl.1 rfl (lv_room (Nat.le_of_ble_eq_true rfl)) dX11_on_40 ⟨Nat.zero_le _, Nat.zero_le _⟩) hS (fun q _ h => hFc q h) hFc (fun xi15 t H15 locs ht hvm hw15 hB hz1 hk1 hS => ?_)
        have hP : va_P (dC, dI) vwCl (wR 157 ad (EX cs ad) xi15) H15 := by rw [← ht]; exact hB
        obtain ⟨hfe15, ok, hw15, hkp15_0⟩ := hw15
        have hF := mi_let hF hfe15
        have kp16 : (∀ k f : Nat, Nat.testBit 38 (gpX k f) = true → xi15 k f = mu k f) := kp_t hkp15_0 (by decide) (fun _ _ _ => rfl)
        refine lv_aload_n hx hb dX11_on_43 rfl (lv_at hl 0 rfl) ?_
        refine va_get (D := (dC, dI)) (ci := 11) (v := .ref (ad 6)) (C := RX11) (T := TX11) (N := 11) hx hb hts inG11 hown hK hP 0 (gX_0 cs ad xi15) rfl 5 (by decide) (hts _ (List.mem_cons_of_mem _ mw_2_163)) (fun _ h9 => h9) rfl dX11_on_44 ?_
        refine lv_iconst (v := 0) hx hb dX11_on_47 (by decide) ?_
        refine va_put (D := (dC, dI)) (ci := 2) (v := .int 0) (ty := .int) (C := RX2) (T := TX2) (N := 2) hx hb hts inG2 tyX2 tyX2_ok nmX2 hown hK hP (wR_D xi15 hD) hS 6 (gX_6 cs ad xi15) rfl 1 (by decide) (hts _ (List.mem_cons_of_mem _ mw_2_8)) (fun _ h9 => h9) rfl (by decide +kernel) rfl rfl (Nat.le_of_ble_eq_true rfl) dX11_on_48 (fun H locs hP _ hS => ?_)
        simp only [List.set_cons_succ, List.set_cons_zero] at hP
        refine wr_gen (upd (xi15 6) 1 0) hP ((hX_6_1 cs ad _ _)) (fun nu17 hn17 hP => ?_)
        have hF := mi_let hF hn17.symm
        have ok := tX_6_1 ok hn17 (by have h9 : (0 : Int32).toInt = 0 := rfl; exact ⟨by omega, by omega⟩)
        have kp18 : (∀ k f : Nat, Nat.testBit 38 (gpX k f) = true → nu17 k f = mu k f) := kp_c 4 hn17 (fun _ => rfl) (by decide) kp16
        have ez19 : 0 = nu17 6 1 := up_v hn17
        refine lv_aload_n hx hb dX11_on_51 rfl (lv_at hl 0 rfl) ?_
        refine va_get (D := (dC, dI)) (ci := 11) (v := .ref (ad 4)) (C := RX11) (T := TX11) (N := 11) hx hb hts inG11 hown hK hP 0 (gX_0 cs ad nu17) rfl 3 (by decide) (hts _ (List.mem_cons_of_mem _ mw_2_161)) (fun _ h9 => h9) rfl dX11_on_52 ?_
        refine va_get (D := (dC, dI)) (ci := 10) (v := .ref (ad 5)) (C := RX10) (T := TX10) (N := 8) hx hb hts inG10 hown hK hP 4 (gX_4 cs ad nu17) rfl 3 (by decide) (hts _ (List.mem_cons_of_mem _ mw_1_157)) (fun _ h9 => h9) rfl dX11_on_55 ?_
        refine va_get (D := (dC, dI)) (ci := 8) (v := .int (nu17 5 3)) (C := RX8) (T := TX8) (N := 6) hx hb hts inG8 hown hK hP 5 (gX_5 cs ad nu17) rfl 3 (by decide) (hts _ (List.mem_cons_of_mem _ mw_1_124)) (fun _ h9 => h9) rfl dX11_on_58 ?_
        refine lv_topi (fun y20 ey20 => ?_)
        have hF := mi_let hF ey20
        have by20 : y20.toInt = (nu17 5 3).toInt := congrArg Int32.toInt ey20
        exact W.iret (v := y20) hx hb hr (fun t ht hW => ⟨⟨y20, nu17, rfl, ⟨hF.trans hfz.symm, ok, trivial, kp18⟩, by first | (subst ht; exact hP) | (rw [ht]; exact hP) | (show va_P (dC, dI) vwCl (wR 157 ad (EX cs ad) nu17) t.heap; rw [ht]; exact hP)⟩, hS.F ht⟩) hS.2.2 dX11_on_61
      · have hF := (if_pos c_14).symm.trans hF
        have c_14 : y13.toInt = 0 := il_eq c_14
        refine lv_aload_n hx hb dX11_on_21 rfl (lv_at hl 0 rfl) ?_
        refine lv_iconst (v := 1) hx hb dX11_on_22 (by decide) ?_
        have hFc := fr_all (wR_D mu hD) hS hA
        refine va_calli (va_runV (As := [.int 1]) (rest := []) ⟨hx, hb, hml, hown, hts⟩ (sx_found l dC dI cs ad mu ok s.heap hP ((wR_D mu hD).weaken (fun _ _ _ _ => trivial)) 1 (by have h50 : (1 : Int32).toInt = 1 := rfl; omega)) (cwV 1 hts (wU_V mw_2_202 mw_2_199 mw_2_201 mw_0_0 mw_1_1) rfl rfl rfl (by decide +kernel) ⟨Nat.le_of_ble_eq_true rfl, Nat.le_of_ble_eq_true rfl⟩) ⟨sz_c, va_recv hK hP (ci := 11) (q0 := 0) rfl (gX_0 cs ad mu), sz_m hK hz⟩ rfl rfl hl.1 rfl (lv_room (Nat.le_of_ble_eq_true rfl)) dX11_on_23 ⟨Nat.zero_le _, Nat.zero_le _⟩) hS (fun q _ h => hFc q h) hFc (fun r21 xi21 t H21 locs ht hvm hw21 hB hz1 hk1 hS => ?_)
        have hP : va_P (dC, dI) vwCl (wR 157 ad (EX cs ad) xi21) H21 := by rw [← ht]; exact hB
        obtain ⟨hfe21, ok, hw21, hkp21_0⟩ := hw21
        have hF := mi_letp hF hfe21
        have kp22 : (∀ k f : Nat, Nat.testBit 38 (gpX k f) = true → xi21 k f = mu k f) := kp_t hkp21_0 (by decide) (fun _ _ _ => rfl)
        have gr21 : -3 ≤ r21.toInt ∧ r21.toInt ≤ -3 := hw21
        exact W.iret (v := r21) hx hb hr (fun t ht hW => ⟨⟨r21, xi21, rfl, ⟨hF.trans hfz.symm, ok, trivial, kp22⟩, by first | (subst ht; exact hP) | (rw [ht]; exact hP) | (show va_P (dC, dI) vwCl (wR 157 ad (EX cs ad) xi21) t.heap; rw [ht]; exact hP)⟩, hS.F ht⟩) hS.2.2 dX11_on_26
    · have hs2 : vk = 2 := Int32.toInt_inj.mp (hs2.trans (by decide))
      rw [if_neg (show ¬ vk = 0 by rw [hs2]; decide)] at hF
      rw [if_neg (show ¬ vk = 1 by rw [hs2]; decide)] at hF
      have hG2 := hF
      subst hs2
      have hF := hG2
      refine lv_aload_n hx hb dX11_on_9 rfl (lv_at hl 0 rfl) ?_
      refine va_get (D := (dC, dI)) (ci := 11) (v := .ref (ad 3)) (C := RX11) (T := TX11) (N := 11) hx hb hts inG11 hown hK hP 0 (gX_0 cs ad mu) rfl 2 (by decide) (hts _ (List.mem_cons_of_mem _ mw_2_160)) (fun _ h9 => h9) rfl dX11_on_10 ?_
      refine lv_iload_n hx hb dX11_on_13 rfl (lv_at hl 1 rfl) ?_
      refine va_aldq hx hb hK hP 3 4 (gX_3 cs ad mu) rfl (show vp_in 2 3 from (by unfold vp_in; decide)) dX11_on_14 ?_
      refine lq_v (.ref (ad 20)) rfl ?_
      refine va_get (D := (dC, dI)) (ci := 8) (v := .int (mu 20 5)) (C := RX8) (T := TX8) (N := 6) hx hb hts inG8 hown hK hP 20 (gX_20 cs ad mu) rfl 5 (by decide) (hts _ (List.mem_cons_of_mem _ mw_1_129)) (fun _ h9 => h9) rfl dX11_on_15 ?_
      refine lv_topi (fun y23 ey23 => ?_)
      have hF := mi_let hF ey23
      have by23 : y23.toInt = (mu 20 5).toInt := congrArg Int32.toInt ey23
      have gy23 : 0 ≤ y23.toInt ∧ y23.toInt ≤ 1 := by rw [ey23]; exact rX_20_5 ok
      refine lv_if_ne (tgt := 27) hx hb dX11_on_18 (by decide) (fun c_24 => ?_) (fun c_24 => ?_)
      · have hF := (if_neg c_24).symm.trans hF
        have c_24 : ¬ y23.toInt = 0 := il_ne c_24
        refine lv_aload_n hx hb dX11_on_27 rfl (lv_at hl 0 rfl) ?_
        refine va_get (D := (dC, dI)) (ci := 11) (v := .ref (ad 4)) (C := RX11) (T := TX11) (N := 11) hx hb hts inG11 hown hK hP 0 (gX_0 cs ad mu) rfl 3 (by decide) (hts _ (List.mem_cons_of_mem _ mw_2_161)) (fun _ h9 => h9) rfl dX11_on_28 ?_
        refine va_get (D := (dC, dI)) (ci := 10) (v := .ref (ad 5)) (C := RX10) (T := TX10) (N := 8) hx hb hts inG10 hown hK hP 4 (gX_4 cs ad mu) rfl 3 (by decide) (hts _ (List.mem_cons_of_mem _ mw_1_157)) (fun _ h9 => h9) rfl dX11_on_31 ?_
        refine lv_aload_n hx hb dX11_on_34 rfl (lv_at hl 0 rfl) ?_
        refine va_get (D := (dC, dI)) (ci := 11) (v := .ref (ad 3)) (C := RX11) (T := TX11) (N := 11) hx hb hts inG11 hown hK hP 0 (gX_0 cs ad mu) rfl 2 (by decide) (hts _ (List.mem_cons_of_mem _ mw_2_160)) (fun _ h9 => h9) rfl dX11_on_35 ?_
        refine lv_iload_n hx hb dX11_on_38 rfl (lv_at hl 1 rfl) ?_
        refine va_aldq hx hb hK hP 3 4 (gX_3 cs ad mu) rfl (show vp_in 2 3 from (by unfold vp_in; decide)) dX11_on_39 ?_
        refine lq_v (.ref (ad 20)) rfl ?_
        have hFc := fr_all (wR_D mu hD) hS hA
        refine va_callv (va_runV (As := [.ref (ad 20)]) (rest := []) ⟨hx, hb, hml, hown, hts⟩ (sx_Standing_beLike_5_20 l dC dI cs ad mu ok s.heap hP ((wR_D mu hD).weaken (fun _ _ _ _ => trivial))) (cwV 1 hts (wU_V mw_3_224 mw_3_221 mw_3_222 mw_3_223 mw_1_3) rfl rfl rfl (by decide +kernel) ⟨Nat.le_of_ble_eq_true rfl, Nat.le_of_ble_eq_true rfl⟩) ⟨sz_c, va_recv hK hP (ci := 8) (q0 := 5) rfl (gX_5 cs ad mu), sz_m hK hz⟩ rfl rfl hl.1 rfl (lv_room (Nat.le_of_ble_eq_true rfl)) dX11_on_40 ⟨Nat.zero_le _, Nat.zero_le _⟩) hS (fun q _ h => hFc q h) hFc (fun xi25 t H25 locs ht hvm hw25 hB hz1 hk1 hS => ?_)
        have hP : va_P (dC, dI) vwCl (wR 157 ad (EX cs ad) xi25) H25 := by rw [← ht]; exact hB
        obtain ⟨hfe25, ok, hw25, hkp25_0⟩ := hw25
        have hF := mi_let hF hfe25
        have kp26 : (∀ k f : Nat, Nat.testBit 38 (gpX k f) = true → xi25 k f = mu k f) := kp_t hkp25_0 (by decide) (fun _ _ _ => rfl)
        refine lv_aload_n hx hb dX11_on_43 rfl (lv_at hl 0 rfl) ?_
        refine va_get (D := (dC, dI)) (ci := 11) (v := .ref (ad 6)) (C := RX11) (T := TX11) (N := 11) hx hb hts inG11 hown hK hP 0 (gX_0 cs ad xi25) rfl 5 (by decide) (hts _ (List.mem_cons_of_mem _ mw_2_163)) (fun _ h9 => h9) rfl dX11_on_44 ?_
        refine lv_iconst (v := 0) hx hb dX11_on_47 (by decide) ?_
        refine va_put (D := (dC, dI)) (ci := 2) (v := .int 0) (ty := .int) (C := RX2) (T := TX2) (N := 2) hx hb hts inG2 tyX2 tyX2_ok nmX2 hown hK hP (wR_D xi25 hD) hS 6 (gX_6 cs ad xi25) rfl 1 (by decide) (hts _ (List.mem_cons_of_mem _ mw_2_8)) (fun _ h9 => h9) rfl (by decide +kernel) rfl rfl (Nat.le_of_ble_eq_true rfl) dX11_on_48 (fun H locs hP _ hS => ?_)
        simp only [List.set_cons_succ, List.set_cons_zero] at hP
        refine wr_gen (upd (xi25 6) 1 0) hP ((hX_6_1 cs ad _ _)) (fun nu27 hn27 hP => ?_)
        have hF := mi_let hF hn27.symm
        have ok := tX_6_1 ok hn27 (by have h9 : (0 : Int32).toInt = 0 := rfl; exact ⟨by omega, by omega⟩)
        have kp28 : (∀ k f : Nat, Nat.testBit 38 (gpX k f) = true → nu27 k f = mu k f) := kp_c 4 hn27 (fun _ => rfl) (by decide) kp26
        have ez29 : 0 = nu27 6 1 := up_v hn27
        refine lv_aload_n hx hb dX11_on_51 rfl (lv_at hl 0 rfl) ?_
        refine va_get (D := (dC, dI)) (ci := 11) (v := .ref (ad 4)) (C := RX11) (T := TX11) (N := 11) hx hb hts inG11 hown hK hP 0 (gX_0 cs ad nu27) rfl 3 (by decide) (hts _ (List.mem_cons_of_mem _ mw_2_161)) (fun _ h9 => h9) rfl dX11_on_52 ?_
        refine va_get (D := (dC, dI)) (ci := 10) (v := .ref (ad 5)) (C := RX10) (T := TX10) (N := 8) hx hb hts inG10 hown hK hP 4 (gX_4 cs ad nu27) rfl 3 (by decide) (hts _ (List.mem_cons_of_mem _ mw_1_157)) (fun _ h9 => h9) rfl dX11_on_55 ?_
        refine va_get (D := (dC, dI)) (ci := 8) (v := .int (nu27 5 3)) (C := RX8) (T := TX8) (N := 6) hx hb hts inG8 hown hK hP 5 (gX_5 cs ad nu27) rfl 3 (by decide) (hts _ (List.mem_cons_of_mem _ mw_1_124)) (fun _ h9 => h9) rfl dX11_on_58 ?_
        refine lv_topi (fun y30 ey30 => ?_)
        have hF := mi_let hF ey30
        have by30 : y30.toInt = (nu27 5 3).toInt := congrArg Int32.toInt ey30
        exact W.iret (v := y30) hx hb hr (fun t ht hW => ⟨⟨y30, nu27, rfl, ⟨hF.trans hfz.symm, ok, trivial, kp28⟩, by first | (subst ht; exact hP) | (rw [ht]; exact hP) | (show va_P (dC, dI) vwCl (wR 157 ad (EX cs ad) nu27) t.heap; rw [ht]; exact hP)⟩, hS.F ht⟩) hS.2.2 dX11_on_61
      · have hF := (if_pos c_24).symm.trans hF
        have c_24 : y23.toInt = 0 := il_eq c_24
        refine lv_aload_n hx hb dX11_on_21 rfl (lv_at hl 0 rfl) ?_
        refine lv_iconst (v := 1) hx hb dX11_on_22 (by decide) ?_
        have hFc := fr_all (wR_D mu hD) hS hA
        refine va_calli (va_runV (As := [.int 1]) (rest := []) ⟨hx, hb, hml, hown, hts⟩ (sx_found l dC dI cs ad mu ok s.heap hP ((wR_D mu hD).weaken (fun _ _ _ _ => trivial)) 1 (by have h50 : (1 : Int32).toInt = 1 := rfl; omega)) (cwV 1 hts (wU_V mw_2_202 mw_2_199 mw_2_201 mw_0_0 mw_1_1) rfl rfl rfl (by decide +kernel) ⟨Nat.le_of_ble_eq_true rfl, Nat.le_of_ble_eq_true rfl⟩) ⟨sz_c, va_recv hK hP (ci := 11) (q0 := 0) rfl (gX_0 cs ad mu), sz_m hK hz⟩ rfl rfl hl.1 rfl (lv_room (Nat.le_of_ble_eq_true rfl)) dX11_on_23 ⟨Nat.zero_le _, Nat.zero_le _⟩) hS (fun q _ h => hFc q h) hFc (fun r31 xi31 t H31 locs ht hvm hw31 hB hz1 hk1 hS => ?_)
        have hP : va_P (dC, dI) vwCl (wR 157 ad (EX cs ad) xi31) H31 := by rw [← ht]; exact hB
        obtain ⟨hfe31, ok, hw31, hkp31_0⟩ := hw31
        have hF := mi_letp hF hfe31
        have kp32 : (∀ k f : Nat, Nat.testBit 38 (gpX k f) = true → xi31 k f = mu k f) := kp_t hkp31_0 (by decide) (fun _ _ _ => rfl)
        have gr31 : -3 ≤ r31.toInt ∧ r31.toInt ≤ -3 := hw31
        exact W.iret (v := r31) hx hb hr (fun t ht hW => ⟨⟨r31, xi31, rfl, ⟨hF.trans hfz.symm, ok, trivial, kp32⟩, by first | (subst ht; exact hP) | (rw [ht]; exact hP) | (show va_P (dC, dI) vwCl (wR 157 ad (EX cs ad) xi31) t.heap; rw [ht]; exact hP)⟩, hS.F ht⟩) hS.2.2 dX11_on_26
  · have hF := (if_neg (fun h => absurd (hfe1.trans h) (by decide))).symm.trans hF
    have f1 : vk.toInt < 0 ∨ 2 < vk.toInt := f1
    refine lv_if_ne (tgt := 9) hx hb dX11_on_4 (by decide) (fun c => absurd (by decide) c) (fun _ => ?_)
    refine lv_iconst (v := (-1)) hx hb dX11_on_7 (by decide) ?_
    exact W.iret (v := (-1)) hx hb hr (fun t ht hW => ⟨⟨(-1), mu, rfl, ⟨hF.trans hfz.symm, ok, trivial, (fun _ _ _ => rfl)⟩, by first | (subst ht; exact hP) | (rw [ht]; exact hP) | (show va_P (dC, dI) vwCl (wR 157 ad (EX cs ad) mu) t.heap; rw [ht]; exact hP)⟩, hS.F ht⟩) hS.2.2 dX11_on_8
set_option maxHeartbeats 4000000 in
set_option maxRecDepth 100000 in
/-- qx_bearer -/
theorem qx_bearer (l : Launch) (dC : Nat → ClassId) (dI : Nat → Nat → Nat) (cs : Nat → ClassId) (ad : Nat → Nat) (mu : Nat → Nat → Int32) (ok : okR loX hiX mu) (H : Heap) (hP : va_P (dC, dI) vwCl (wR 157 ad (EX cs ad) mu) H) (hD0 : va_D (fun _ => True) (wR 157 ad (EX cs ad) mu)) (vx : Int32) (vw : Int32) : Met l yX11_bearer (wU yX11_bearer cX11_bearer 3 (some .int)) ({ frames := 3, cells := 0, slots := 0, locals := 67 }) (va_Pc [.ref (ad 0), .int vx, .int vw] (sz_P (dC, dI) vwCl (tyW cs) H)) (va_Qi (fun (z : Int32) (xi : Nat → Nat → Int32) => (z, xi) = F_qx_bearer mu vx vw ∧ okR loX hiX xi ∧ (True) ∧ (∀ k f : Nat, Nat.testBit 510 (gpX k f) = true → xi k f = mu k f)) (fun xi t => va_P (dC, dI) vwCl (wR 157 ad (EX cs ad) xi) t.heap) (va_A (wR 157 ad (EX cs ad) mu) H.size)) 0 0 (va_A (wR 157 ad (EX cs ad) mu) H.size) := by
  refine Met.ofW (cc := cX11_bearer) (maxL := 3) (ret := (some .int)) (by decide) rfl ?_
  intro p e s m args below meth c s₁ B hml hv
  obtain ⟨rfl, hh, hK, hz⟩ := hv
  have hx := B.exec
  have hb := B.bytes
  have hr := B.returns
  have hts := atoms_spec (ws := (wU yX11_bearer cX11_bearer 3 (some .int))) B.pre
  have hown : s.vm.findClass RX11 = some m.cls := findClass_of_methodNamed B.named
  have hlocks := B.notSynchronized
  subst hh
  have hD := hD0.self (sz := s.heap.size)
  have hA : ∀ q : Nat, s.heap.size ≤ q → (va_A (wR 157 ad (EX cs ad) mu) s.heap.size) q := fun q h => Or.inr h
  have hS : va_S (va_A (wR 157 ad (EX cs ad) mu) s.heap.size) s.heap s.heap [] := va_S.rf
  have hl := lv_entry ([.ref (ad 0), .int vx, .int vw]) (n := 3) (Nat.le_of_ble_eq_true rfl)
  rw [lg_entry_eq]
  generalize (lg_sl ([.ref (ad 0), .int vx, .int vw]) ++ List.replicate (3 - (lg_sl ([.ref (ad 0), .int vx, .int vw])).length) Slot.unset).toArray = ls at hl ⊢
  have hl : lv_has ls 3 [(0, .ref (ad 0)), (1, .int vx), (2, .int vw)] := hl
  obtain ⟨fz, hfz⟩ : ∃ z, F_qx_bearer mu vx vw = z := ⟨_, rfl⟩
  have hF := hfz
  unfold F_qx_bearer at hF
  refine lv_aload_n hx hb dX11_bearer_0 rfl (lv_at hl 0 rfl) ?_
  refine va_get (D := (dC, dI)) (ci := 11) (v := .ref (ad 4)) (C := RX11) (T := TX11) (N := 11) hx hb hts inG11 hown hK hP 0 (gX_0 cs ad mu) rfl 3 (by decide) (hts _ (List.mem_cons_of_mem _ mw_2_161)) (fun _ h9 => h9) rfl dX11_bearer_1 ?_
  refine lv_iload_n hx hb dX11_bearer_4 rfl (lv_at hl 1 rfl) ?_
  refine cr_i (va_runV (As := [.int vx]) (rest := []) ⟨hx, hb, hml, hown, hts⟩ (sx_has l dC dI cs ad mu ok s.heap hP vx) (cwV 1 hts (wU_V mw_3_76 mw_3_73 mw_3_74 mw_3_75 mw_1_2) rfl rfl rfl (by decide +kernel) ⟨Nat.le_of_ble_eq_true rfl, Nat.le_of_ble_eq_true rfl⟩) ⟨sz_c, va_recv hK hP (ci := 10) (q0 := 4) rfl (gX_4 cs ad mu), sz_m hK hz⟩ rfl rfl hl.1 rfl (lv_room (Nat.le_of_ble_eq_true rfl)) dX11_bearer_5 ⟨Nat.zero_le _, Nat.zero_le _⟩) hS (fun r1 hw1 locs hS => ?_)
  obtain ⟨hfe1, hw1⟩ := hw1
  rcases hw1 with ⟨rfl, f1⟩ | ⟨rfl, f1⟩
  · have hF := (if_pos hfe1.symm).symm.trans hF
    have f1 : 0 ≤ vx.toInt ∧ vx.toInt < (mu 4 6).toInt ∧ (mu 4 6).toInt ≤ 7 := f1
    refine lv_if_eq (tgt := 20) hx hb dX11_bearer_8 (by decide) (fun c => absurd c (by decide)) (fun _ => ?_)
    refine lv_iload_n hx hb dX11_bearer_11 rfl (lv_at hl 2 rfl) ?_
    refine lv_if_lt (tgt := 20) hx hb dX11_bearer_12 (by decide) (fun c_2 => ?_) (fun c_2 => ?_)
    · have hF := (if_pos c_2).symm.trans hF
      have c_2 : vw.toInt < 0 := il_lt c_2
      refine lv_iconst (v := (-1)) hx hb dX11_bearer_20 (by decide) ?_
      exact W.iret (v := (-1)) hx hb hr (fun t ht hW => ⟨⟨(-1), mu, rfl, ⟨hF.trans hfz.symm, ok, trivial, (fun _ _ _ => rfl)⟩, by first | (subst ht; exact hP) | (rw [ht]; exact hP) | (show va_P (dC, dI) vwCl (wR 157 ad (EX cs ad) mu) t.heap; rw [ht]; exact hP)⟩, hS.F ht⟩) hS.2.2 dX11_bearer_21
    · have hF := (if_neg c_2).symm.trans hF
      have c_2 : 0 ≤ vw.toInt := il_nlt c_2
      refine lv_iload_n hx hb dX11_bearer_15 rfl (lv_at hl 2 rfl) ?_
      refine lv_iconst (v := 4) hx hb dX11_bearer_16 (by decide) ?_
      refine lv_icmp_lt (tgt := 22) hx hb dX11_bearer_17 (by decide) (fun c_3 => ?_) (fun c_3 => ?_)
      · have hF := (if_pos c_3).symm.trans hF
        have c_3 : vw.toInt < 4 := il_lt c_3
        refine lv_aload_n hx hb dX11_bearer_22 rfl (lv_at hl 0 rfl) ?_
        refine lv_aload_n hx hb dX11_bearer_23 rfl (lv_at hl 0 rfl) ?_
        refine va_get (D := (dC, dI)) (ci := 11) (v := .ref (ad 4)) (C := RX11) (T := TX11) (N := 11) hx hb hts inG11 hown hK hP 0 (gX_0 cs ad mu) rfl 3 (by decide) (hts _ (List.mem_cons_of_mem _ mw_2_161)) (fun _ h9 => h9) rfl dX11_bearer_24 ?_
        refine lv_iload_n hx hb dX11_bearer_27 rfl (lv_at hl 1 rfl) ?_
        refine lv_iload_n hx hb dX11_bearer_28 rfl (lv_at hl 2 rfl) ?_
        refine cr_i (va_runV (As := [.int vx, .int vw]) (rest := [.ref (ad 0)]) ⟨hx, hb, hml, hown, hts⟩ (sx_bearerFact l dC dI cs ad mu ok s.heap hP vx vw (by omega)) (cwV 2 hts (wU_V mw_3_80 mw_3_77 mw_3_78 mw_3_79 mw_1_2) rfl rfl rfl (by decide +kernel) ⟨Nat.le_of_ble_eq_true rfl, Nat.le_of_ble_eq_true rfl⟩) ⟨sz_c, va_recv hK hP (ci := 10) (q0 := 4) rfl (gX_4 cs ad mu), sz_m hK hz⟩ rfl rfl hl.1 rfl (lv_room (Nat.le_of_ble_eq_true rfl)) dX11_bearer_29 ⟨Nat.zero_le _, Nat.zero_le _⟩) hS (fun r4 hw4 locs hS => ?_)
        obtain ⟨hfe4, hw4⟩ := hw4
        have hF := mi_let hF hfe4
        refine va_put (D := (dC, dI)) (ci := 11) (v := .int r4) (ty := .int) (C := RX11) (T := TX11) (N := 11) hx hb hts inG11 tyX11 tyX11_ok nmX11 hown hK hP (wR_D mu hD) hS 0 (gX_0 cs ad mu) rfl 10 (by decide) (hts _ (List.mem_cons_of_mem _ mw_2_168)) (fun _ h9 => h9) rfl (by decide +kernel) rfl rfl (Nat.le_of_ble_eq_true rfl) dX11_bearer_32 (fun H locs hP _ hS => ?_)
        simp only [List.set_cons_succ, List.set_cons_zero] at hP
        refine wr_gen (upd (mu 0) 10 r4) hP ((hX_0_10 cs ad _ _)) (fun nu5 hn5 hP => ?_)
        have hF := mi_let hF hn5.symm
        have ok := tX_0_10 ok hn5
        have kp6 : (∀ k f : Nat, Nat.testBit 510 (gpX k f) = true → nu5 k f = mu k f) := kp_c 0 hn5 (fun _ => rfl) (by decide) (fun _ _ _ => rfl)
        have ez7 : r4 = nu5 0 10 := up_v hn5
        refine lv_iconst (v := 1) hx hb dX11_bearer_35 (by decide) ?_
        exact W.iret (v := 1) hx hb hr (fun t ht hW => ⟨⟨1, nu5, rfl, ⟨hF.trans hfz.symm, ok, trivial, kp6⟩, by first | (subst ht; exact hP) | (rw [ht]; exact hP) | (show va_P (dC, dI) vwCl (wR 157 ad (EX cs ad) nu5) t.heap; rw [ht]; exact hP)⟩, hS.F ht⟩) hS.2.2 dX11_bearer_36
      · have hF := (if_neg c_3).symm.trans hF
        have c_3 : 4 ≤ vw.toInt := il_nlt c_3
        refine lv_iconst (v := (-1)) hx hb dX11_bearer_20 (by decide) ?_
        exact W.iret (v := (-1)) hx hb hr (fun t ht hW => ⟨⟨(-1), mu, rfl, ⟨hF.trans hfz.symm, ok, trivial, (fun _ _ _ => rfl)⟩, by first | (subst ht; exact hP) | (rw [ht]; exact hP) | (show va_P (dC, dI) vwCl (wR 157 ad (EX cs ad) mu) t.heap; rw [ht]; exact hP)⟩, hS.F ht⟩) hS.2.2 dX11_bearer_21
  · have hF := (if_neg (fun h => absurd (hfe1.trans h) (by decide))).symm.trans hF
    have f1 : vx.toInt < 0 ∨ (mu 4 6).toInt ≤ vx.toInt := f1
    refine lv_if_eq (tgt := 20) hx hb dX11_bearer_8 (by decide) (fun _ => ?_) (fun c => absurd (by decide) c)
    refine lv_iconst (v := (-1)) hx hb dX11_bearer_20 (by decide) ?_
    exact W.iret (v := (-1)) hx hb hr (fun t ht hW => ⟨⟨(-1), mu, rfl, ⟨hF.trans hfz.symm, ok, trivial, (fun _ _ _ => rfl)⟩, by first | (subst ht; exact hP) | (rw [ht]; exact hP) | (show va_P (dC, dI) vwCl (wR 157 ad (EX cs ad) mu) t.heap; rw [ht]; exact hP)⟩, hS.F ht⟩) hS.2.2 dX11_bearer_21
set_option maxHeartbeats 4000000 in
set_option maxRecDepth 100000 in
/-- qx_mark -/
theorem qx_mark (l : Launch) (dC : Nat → ClassId) (dI : Nat → Nat → Nat) (cs : Nat → ClassId) (ad : Nat → Nat) (mu : Nat → Nat → Int32) (ok : okR loX hiX mu) (H : Heap) (hP : va_P (dC, dI) vwCl (wR 157 ad (EX cs ad) mu) H) (hD0 : va_D (fun _ => True) (wR 157 ad (EX cs ad) mu)) (vx : Int32) (vd : Int32) : Met l yX11_mark (wU yX11_mark cX11_mark 3 (some .int)) ({ frames := 3, cells := 0, slots := 0, locals := 69 }) (va_Pc [.ref (ad 0), .int vx, .int vd] (sz_P (dC, dI) vwCl (tyW cs) H)) (va_Qi (fun (z : Int32) (xi : Nat → Nat → Int32) => (z, xi) = F_qx_mark mu vx vd ∧ okR loX hiX xi ∧ (True) ∧ (∀ k f : Nat, Nat.testBit 510 (gpX k f) = true → xi k f = mu k f)) (fun xi t => va_P (dC, dI) vwCl (wR 157 ad (EX cs ad) xi) t.heap) (va_A (wR 157 ad (EX cs ad) mu) H.size)) 0 0 (va_A (wR 157 ad (EX cs ad) mu) H.size) := by
  refine Met.ofW (cc := cX11_mark) (maxL := 3) (ret := (some .int)) (by decide) rfl ?_
  intro p e s m args below meth c s₁ B hml hv
  obtain ⟨rfl, hh, hK, hz⟩ := hv
  have hx := B.exec
  have hb := B.bytes
  have hr := B.returns
  have hts := atoms_spec (ws := (wU yX11_mark cX11_mark 3 (some .int))) B.pre
  have hown : s.vm.findClass RX11 = some m.cls := findClass_of_methodNamed B.named
  have hlocks := B.notSynchronized
  subst hh
  have hD := hD0.self (sz := s.heap.size)
  have hA : ∀ q : Nat, s.heap.size ≤ q → (va_A (wR 157 ad (EX cs ad) mu) s.heap.size) q := fun q h => Or.inr h
  have hS : va_S (va_A (wR 157 ad (EX cs ad) mu) s.heap.size) s.heap s.heap [] := va_S.rf
  have hl := lv_entry ([.ref (ad 0), .int vx, .int vd]) (n := 3) (Nat.le_of_ble_eq_true rfl)
  rw [lg_entry_eq]
  generalize (lg_sl ([.ref (ad 0), .int vx, .int vd]) ++ List.replicate (3 - (lg_sl ([.ref (ad 0), .int vx, .int vd])).length) Slot.unset).toArray = ls at hl ⊢
  have hl : lv_has ls 3 [(0, .ref (ad 0)), (1, .int vx), (2, .int vd)] := hl
  obtain ⟨fz, hfz⟩ : ∃ z, F_qx_mark mu vx vd = z := ⟨_, rfl⟩
  have hF := hfz
  unfold F_qx_mark at hF
  refine lv_aload_n hx hb dX11_mark_0 rfl (lv_at hl 0 rfl) ?_
  refine va_get (D := (dC, dI)) (ci := 11) (v := .ref (ad 4)) (C := RX11) (T := TX11) (N := 11) hx hb hts inG11 hown hK hP 0 (gX_0 cs ad mu) rfl 3 (by decide) (hts _ (List.mem_cons_of_mem _ mw_2_161)) (fun _ h9 => h9) rfl dX11_mark_1 ?_
  refine lv_iload_n hx hb dX11_mark_4 rfl (lv_at hl 1 rfl) ?_
  refine cr_i (va_runV (As := [.int vx]) (rest := []) ⟨hx, hb, hml, hown, hts⟩ (sx_has l dC dI cs ad mu ok s.heap hP vx) (cwV 1 hts (wU_V mw_3_76 mw_3_73 mw_3_74 mw_3_75 mw_1_2) rfl rfl rfl (by decide +kernel) ⟨Nat.le_of_ble_eq_true rfl, Nat.le_of_ble_eq_true rfl⟩) ⟨sz_c, va_recv hK hP (ci := 10) (q0 := 4) rfl (gX_4 cs ad mu), sz_m hK hz⟩ rfl rfl hl.1 rfl (lv_room (Nat.le_of_ble_eq_true rfl)) dX11_mark_5 ⟨Nat.zero_le _, Nat.zero_le _⟩) hS (fun r1 hw1 locs hS => ?_)
  obtain ⟨hfe1, hw1⟩ := hw1
  rcases hw1 with ⟨rfl, f1⟩ | ⟨rfl, f1⟩
  · have hF := (if_pos hfe1.symm).symm.trans hF
    have f1 : 0 ≤ vx.toInt ∧ vx.toInt < (mu 4 6).toInt ∧ (mu 4 6).toInt ≤ 7 := f1
    refine lv_if_eq (tgt := 20) hx hb dX11_mark_8 (by decide) (fun c => absurd c (by decide)) (fun _ => ?_)
    refine lv_iload_n hx hb dX11_mark_11 rfl (lv_at hl 2 rfl) ?_
    refine lv_if_le (tgt := 20) hx hb dX11_mark_12 (by decide) (fun c_2 => ?_) (fun c_2 => ?_)
    · have hF := (if_pos c_2).symm.trans hF
      have c_2 : vd.toInt ≤ 0 := il_le c_2
      refine lv_iconst (v := (-1)) hx hb dX11_mark_20 (by decide) ?_
      exact W.iret (v := (-1)) hx hb hr (fun t ht hW => ⟨⟨(-1), mu, rfl, ⟨hF.trans hfz.symm, ok, trivial, (fun _ _ _ => rfl)⟩, by first | (subst ht; exact hP) | (rw [ht]; exact hP) | (show va_P (dC, dI) vwCl (wR 157 ad (EX cs ad) mu) t.heap; rw [ht]; exact hP)⟩, hS.F ht⟩) hS.2.2 dX11_mark_21
    · have hF := (if_neg c_2).symm.trans hF
      have c_2 : 0 < vd.toInt := il_nle c_2
      refine lv_iload_n hx hb dX11_mark_15 rfl (lv_at hl 2 rfl) ?_
      refine lv_iconst (v := 5) hx hb dX11_mark_16 (by decide) ?_
      refine lv_icmp_le (tgt := 22) hx hb dX11_mark_17 (by decide) (fun c_3 => ?_) (fun c_3 => ?_)
      · have hF := (if_pos c_3).symm.trans hF
        have c_3 : vd.toInt ≤ 5 := il_le c_3
        refine lv_aload_n hx hb dX11_mark_22 rfl (lv_at hl 0 rfl) ?_
        refine va_get (D := (dC, dI)) (ci := 11) (v := .ref (ad 4)) (C := RX11) (T := TX11) (N := 11) hx hb hts inG11 hown hK hP 0 (gX_0 cs ad mu) rfl 3 (by decide) (hts _ (List.mem_cons_of_mem _ mw_2_161)) (fun _ h9 => h9) rfl dX11_mark_23 ?_
        refine va_get (D := (dC, dI)) (ci := 10) (v := .ref (ad 34)) (C := RX10) (T := TX10) (N := 8) hx hb hts inG10 hown hK hP 4 (gX_4 cs ad mu) rfl 0 (by decide) (hts _ (List.mem_cons_of_mem _ mw_1_147)) (fun _ h9 => h9) rfl dX11_mark_26 ?_
        refine lv_iload_n hx hb dX11_mark_29 rfl (lv_at hl 1 rfl) ?_
        refine va_iald hx hb hK hP 34 0 (gX_34 cs ad mu) rfl (show vp_in vx 7 from vi_of (by omega) (by omega)) dX11_mark_30 ?_
        refine lv_topi (fun y4 ey4 => ?_)
        have hF := mi_let hF ey4
        have by4 : y4.toInt = (mu 34 vx.toNatClampNeg).toInt := congrArg Int32.toInt ey4
        refine lv_iload_n hx hb dX11_mark_31 rfl (lv_at hl 2 rfl) ?_
        refine cr_i (va_runS (As := [.int y4, .int vd]) (rest := []) ⟨hx, hb, hml, hown, hts⟩ (sx_isOfKind l dC dI (tyW cs) s.heap y4 vd) (va_cwS 2 hts (wU_S mw_3_104 mw_3_102 mw_3_103 mw_1_1) rfl rfl rfl (by decide +kernel) ⟨Nat.le_of_ble_eq_true rfl, Nat.le_of_ble_eq_true rfl⟩) ⟨sz_c, sz_m hK hz⟩ rfl rfl hl.1 rfl (lv_room (Nat.le_of_ble_eq_true rfl)) dX11_mark_32 ⟨Nat.zero_le _, Nat.zero_le _⟩) hS (fun r5 hw5 locs hS => ?_)
        obtain ⟨hfe5, hw5⟩ := hw5
        have hF := mi_let hF hfe5
        have gr5 : 0 ≤ r5.toInt ∧ r5.toInt ≤ 1 := hw5
        refine lv_if_ne (tgt := 44) hx hb dX11_mark_35 (by decide) (fun c_6 => ?_) (fun c_6 => ?_)
        · have hF := (if_neg c_6).symm.trans hF
          have c_6 : ¬ r5.toInt = 0 := il_ne c_6
          refine lv_iload_n hx hb dX11_mark_44 rfl (lv_at hl 2 rfl) ?_
          by_cases w7 : vd.toInt < 1 ∨ 4 < vd.toInt
          · refine lv_tableOut (tgt := 129) hx hb dX11_mark_45 w7 (by decide) ?_
            have hF := (if_pos w7).symm.trans hF
            refine lv_aload_n hx hb dX11_mark_129 rfl (lv_at hl 0 rfl) ?_
            refine va_get (D := (dC, dI)) (ci := 11) (v := .ref (ad 4)) (C := RX11) (T := TX11) (N := 11) hx hb hts inG11 hown hK hP 0 (gX_0 cs ad mu) rfl 3 (by decide) (hts _ (List.mem_cons_of_mem _ mw_2_161)) (fun _ h9 => h9) rfl dX11_mark_130 ?_
            refine lv_iload_n hx hb dX11_mark_133 rfl (lv_at hl 1 rfl) ?_
            refine cr_i (va_runV (As := [.int vx]) (rest := []) ⟨hx, hb, hml, hown, hts⟩ (sx_paidForUnread l dC dI cs ad mu ok s.heap hP vx) (cwV 1 hts (wU_V mw_3_120 mw_3_117 mw_3_118 mw_3_119 mw_1_2) rfl rfl rfl (by decide +kernel) ⟨Nat.le_of_ble_eq_true rfl, Nat.le_of_ble_eq_true rfl⟩) ⟨sz_c, va_recv hK hP (ci := 10) (q0 := 4) rfl (gX_4 cs ad mu), sz_m hK hz⟩ rfl rfl hl.1 rfl (lv_room (Nat.le_of_ble_eq_true rfl)) dX11_mark_134 ⟨Nat.zero_le _, Nat.zero_le _⟩) hS (fun r8 hw8 locs hS => ?_)
            obtain ⟨hfe8, hw8⟩ := hw8
            have hF := mi_let hF hfe8
            exact W.iret (v := r8) hx hb hr (fun t ht hW => ⟨⟨r8, mu, rfl, ⟨hF.trans hfz.symm, ok, trivial, (fun _ _ _ => rfl)⟩, by first | (subst ht; exact hP) | (rw [ht]; exact hP) | (show va_P (dC, dI) vwCl (wR 157 ad (EX cs ad) mu) t.heap; rw [ht]; exact hP)⟩, hS.F ht⟩) hS.2.2 dX11_mark_137
          have hF := (if_neg w7).symm.trans hF
          by_cases w7_1 : vd.toInt = 1
          · refine lv_tableIn (off := 31) (tgt := 76) hx hb dX11_mark_45 (by omega) (by omega) (by rw [w7_1]; rfl) (by decide) ?_
            have hF := (if_pos w7_1).symm.trans hF
            refine lv_aload_n hx hb dX11_mark_76 rfl (lv_at hl 0 rfl) ?_
            refine va_get (D := (dC, dI)) (ci := 11) (v := .ref (ad 4)) (C := RX11) (T := TX11) (N := 11) hx hb hts inG11 hown hK hP 0 (gX_0 cs ad mu) rfl 3 (by decide) (hts _ (List.mem_cons_of_mem _ mw_2_161)) (fun _ h9 => h9) rfl dX11_mark_77 ?_
            refine va_get (D := (dC, dI)) (ci := 10) (v := .ref (ad 34)) (C := RX10) (T := TX10) (N := 8) hx hb hts inG10 hown hK hP 4 (gX_4 cs ad mu) rfl 0 (by decide) (hts _ (List.mem_cons_of_mem _ mw_1_147)) (fun _ h9 => h9) rfl dX11_mark_80 ?_
            refine lv_iload_n hx hb dX11_mark_83 rfl (lv_at hl 1 rfl) ?_
            refine va_iald hx hb hK hP 34 0 (gX_34 cs ad mu) rfl (show vp_in vx 7 from vi_of (by omega) (by omega)) dX11_mark_84 ?_
            refine lq_i y4 ey4.symm ?_
            refine lv_iconst (v := 0) hx hb dX11_mark_85 (by decide) ?_
            refine cr_i (va_runS (As := [.int y4, .int 0]) (rest := []) ⟨hx, hb, hml, hown, hts⟩ (sx_priceAsked l dC dI (tyW cs) s.heap y4 0) (va_cwS 2 hts (wU_S mw_3_107 mw_3_105 mw_3_106 mw_1_1) rfl rfl rfl (by decide +kernel) ⟨Nat.le_of_ble_eq_true rfl, Nat.le_of_ble_eq_true rfl⟩) ⟨sz_c, sz_m hK hz⟩ rfl rfl hl.1 rfl (lv_room (Nat.le_of_ble_eq_true rfl)) dX11_mark_86 ⟨Nat.zero_le _, Nat.zero_le _⟩) hS (fun r9 hw9 locs hS => ?_)
            obtain ⟨hfe9, hw9⟩ := hw9
            have hF := mi_let hF hfe9
            refine lv_iconst (v := 0) hx hb dX11_mark_89 (by decide) ?_
            refine lv_iconst (v := 0) hx hb dX11_mark_90 (by decide) ?_
            refine cr_i (va_runS (As := [.int 0, .int 0]) (rest := [.int r9]) ⟨hx, hb, hml, hown, hts⟩ (sx_priceAsked l dC dI (tyW cs) s.heap 0 0) (va_cwS 2 hts (wU_S mw_3_107 mw_3_105 mw_3_106 mw_1_1) rfl rfl rfl (by decide +kernel) ⟨Nat.le_of_ble_eq_true rfl, Nat.le_of_ble_eq_true rfl⟩) ⟨sz_c, sz_m hK hz⟩ rfl rfl hl.1 rfl (lv_room (Nat.le_of_ble_eq_true rfl)) dX11_mark_91 ⟨Nat.zero_le _, Nat.zero_le _⟩) hS (fun r10 hw10 locs hS => ?_)
            obtain ⟨hfe10, hw10⟩ := hw10
            have hF := mi_let hF hfe10
            refine lv_isub hx hb dX11_mark_94 ?_
            refine lv_topi (fun t11 et11 => ?_)
            have hF := mi_let hF et11
            exact W.iret (v := t11) hx hb hr (fun t ht hW => ⟨⟨t11, mu, rfl, ⟨hF.trans hfz.symm, ok, trivial, (fun _ _ _ => rfl)⟩, by first | (subst ht; exact hP) | (rw [ht]; exact hP) | (show va_P (dC, dI) vwCl (wR 157 ad (EX cs ad) mu) t.heap; rw [ht]; exact hP)⟩, hS.F ht⟩) hS.2.2 dX11_mark_95
          have hF := (if_neg w7_1).symm.trans hF
          by_cases w7_2 : vd.toInt = 2
          · refine lv_tableIn (off := 51) (tgt := 96) hx hb dX11_mark_45 (by omega) (by omega) (by rw [w7_2]; rfl) (by decide) ?_
            have hF := (if_pos w7_2).symm.trans hF
            refine lv_aload_n hx hb dX11_mark_96 rfl (lv_at hl 0 rfl) ?_
            refine va_get (D := (dC, dI)) (ci := 11) (v := .ref (ad 4)) (C := RX11) (T := TX11) (N := 11) hx hb hts inG11 hown hK hP 0 (gX_0 cs ad mu) rfl 3 (by decide) (hts _ (List.mem_cons_of_mem _ mw_2_161)) (fun _ h9 => h9) rfl dX11_mark_97 ?_
            refine lv_iload_n hx hb dX11_mark_100 rfl (lv_at hl 1 rfl) ?_
            refine cr_i (va_runV (As := [.int vx]) (rest := []) ⟨hx, hb, hml, hown, hts⟩ (sx_friendsNear l dC dI cs ad mu ok s.heap hP vx) (cwV 1 hts (wU_V mw_3_111 mw_3_108 mw_3_109 mw_3_110 mw_1_2) rfl rfl rfl (by decide +kernel) ⟨Nat.le_of_ble_eq_true rfl, Nat.le_of_ble_eq_true rfl⟩) ⟨sz_c, va_recv hK hP (ci := 10) (q0 := 4) rfl (gX_4 cs ad mu), sz_m hK hz⟩ rfl rfl hl.1 rfl (lv_room (Nat.le_of_ble_eq_true rfl)) dX11_mark_101 ⟨Nat.zero_le _, Nat.zero_le _⟩) hS (fun r12 hw12 locs hS => ?_)
            obtain ⟨hfe12, hw12⟩ := hw12
            have hF := mi_let hF hfe12
            exact W.iret (v := r12) hx hb hr (fun t ht hW => ⟨⟨r12, mu, rfl, ⟨hF.trans hfz.symm, ok, trivial, (fun _ _ _ => rfl)⟩, by first | (subst ht; exact hP) | (rw [ht]; exact hP) | (show va_P (dC, dI) vwCl (wR 157 ad (EX cs ad) mu) t.heap; rw [ht]; exact hP)⟩, hS.F ht⟩) hS.2.2 dX11_mark_104
          have hF := (if_neg w7_2).symm.trans hF
          by_cases w7_3 : vd.toInt = 3
          · refine lv_tableIn (off := 60) (tgt := 105) hx hb dX11_mark_45 (by omega) (by omega) (by rw [w7_3]; rfl) (by decide) ?_
            have hF := (if_pos w7_3).symm.trans hF
            refine lv_aload_n hx hb dX11_mark_105 rfl (lv_at hl 0 rfl) ?_
            refine va_get (D := (dC, dI)) (ci := 11) (v := .ref (ad 4)) (C := RX11) (T := TX11) (N := 11) hx hb hts inG11 hown hK hP 0 (gX_0 cs ad mu) rfl 3 (by decide) (hts _ (List.mem_cons_of_mem _ mw_2_161)) (fun _ h9 => h9) rfl dX11_mark_106 ?_
            refine lv_iload_n hx hb dX11_mark_109 rfl (lv_at hl 1 rfl) ?_
            refine cr_i (va_runV (As := [.int vx]) (rest := []) ⟨hx, hb, hml, hown, hts⟩ (sx_unreadTo l dC dI cs ad mu ok s.heap hP vx) (cwV 1 hts (wU_V mw_3_116 mw_3_113 mw_3_114 mw_3_115 mw_1_2) rfl rfl rfl (by decide +kernel) ⟨Nat.le_of_ble_eq_true rfl, Nat.le_of_ble_eq_true rfl⟩) ⟨sz_c, va_recv hK hP (ci := 10) (q0 := 4) rfl (gX_4 cs ad mu), sz_m hK hz⟩ rfl rfl hl.1 rfl (lv_room (Nat.le_of_ble_eq_true rfl)) dX11_mark_110 ⟨Nat.zero_le _, Nat.zero_le _⟩) hS (fun r13 hw13 locs hS => ?_)
            obtain ⟨hfe13, hw13⟩ := hw13
            have hF := mi_let hF hfe13
            exact W.iret (v := r13) hx hb hr (fun t ht hW => ⟨⟨r13, mu, rfl, ⟨hF.trans hfz.symm, ok, trivial, (fun _ _ _ => rfl)⟩, by first | (subst ht; exact hP) | (rw [ht]; exact hP) | (show va_P (dC, dI) vwCl (wR 157 ad (EX cs ad) mu) t.heap; rw [ht]; exact hP)⟩, hS.F ht⟩) hS.2.2 dX11_mark_113
          have hF := (if_neg w7_3).symm.trans hF
          have w7_4 : vd.toInt = 4 := by omega
          refine lv_tableIn (off := 69) (tgt := 114) hx hb dX11_mark_45 (by omega) (by omega) (by rw [w7_4]; rfl) (by decide) ?_
          refine lv_aload_n hx hb dX11_mark_114 rfl (lv_at hl 0 rfl) ?_
          refine va_get (D := (dC, dI)) (ci := 11) (v := .ref (ad 4)) (C := RX11) (T := TX11) (N := 11) hx hb hts inG11 hown hK hP 0 (gX_0 cs ad mu) rfl 3 (by decide) (hts _ (List.mem_cons_of_mem _ mw_2_161)) (fun _ h9 => h9) rfl dX11_mark_115 ?_
          refine va_get (D := (dC, dI)) (ci := 10) (v := .ref (ad 34)) (C := RX10) (T := TX10) (N := 8) hx hb hts inG10 hown hK hP 4 (gX_4 cs ad mu) rfl 0 (by decide) (hts _ (List.mem_cons_of_mem _ mw_1_147)) (fun _ h9 => h9) rfl dX11_mark_118 ?_
          refine lv_iload_n hx hb dX11_mark_121 rfl (lv_at hl 1 rfl) ?_
          refine va_iald hx hb hK hP 34 0 (gX_34 cs ad mu) rfl (show vp_in vx 7 from vi_of (by omega) (by omega)) dX11_mark_122 ?_
          refine lq_i y4 ey4.symm ?_
          refine lv_bipush (v := 10) hx hb dX11_mark_123 (by decide) ?_
          refine cr_i (va_runS (As := [.int y4, .int 10]) (rest := []) ⟨hx, hb, hml, hown, hts⟩ (sx_priceAsked l dC dI (tyW cs) s.heap y4 10) (va_cwS 2 hts (wU_S mw_3_107 mw_3_105 mw_3_106 mw_1_1) rfl rfl rfl (by decide +kernel) ⟨Nat.le_of_ble_eq_true rfl, Nat.le_of_ble_eq_true rfl⟩) ⟨sz_c, sz_m hK hz⟩ rfl rfl hl.1 rfl (lv_room (Nat.le_of_ble_eq_true rfl)) dX11_mark_125 ⟨Nat.zero_le _, Nat.zero_le _⟩) hS (fun r14 hw14 locs hS => ?_)
          obtain ⟨hfe14, hw14⟩ := hw14
          have hF := mi_let hF hfe14
          exact W.iret (v := r14) hx hb hr (fun t ht hW => ⟨⟨r14, mu, rfl, ⟨hF.trans hfz.symm, ok, trivial, (fun _ _ _ => rfl)⟩, by first | (subst ht; exact hP) | (rw [ht]; exact hP) | (show va_P (dC, dI) vwCl (wR 157 ad (EX cs ad) mu) t.heap; rw [ht]; exact hP)⟩, hS.F ht⟩) hS.2.2 dX11_mark_128
        · have hF := (if_pos c_6).symm.trans hF
          have c_6 : r5.toInt = 0 := il_eq c_6
          refine lv_aload_n hx hb dX11_mark_38 rfl (lv_at hl 0 rfl) ?_
          refine lv_iconst (v := 3) hx hb dX11_mark_39 (by decide) ?_
          have hFc := fr_all (wR_D mu hD) hS hA
          refine va_calli (va_runV (As := [.int 3]) (rest := []) ⟨hx, hb, hml, hown, hts⟩ (sx_found l dC dI cs ad mu ok s.heap hP ((wR_D mu hD).weaken (fun _ _ _ _ => trivial)) 3 (by have h50 : (3 : Int32).toInt = 3 := rfl; omega)) (cwV 1 hts (wU_V mw_2_202 mw_2_199 mw_2_201 mw_0_0 mw_1_1) rfl rfl rfl (by decide +kernel) ⟨Nat.le_of_ble_eq_true rfl, Nat.le_of_ble_eq_true rfl⟩) ⟨sz_c, va_recv hK hP (ci := 11) (q0 := 0) rfl (gX_0 cs ad mu), sz_m hK hz⟩ rfl rfl hl.1 rfl (lv_room (Nat.le_of_ble_eq_true rfl)) dX11_mark_40 ⟨Nat.zero_le _, Nat.zero_le _⟩) hS (fun q _ h => hFc q h) hFc (fun r15 xi15 t H15 locs ht hvm hw15 hB hz1 hk1 hS => ?_)
          have hP : va_P (dC, dI) vwCl (wR 157 ad (EX cs ad) xi15) H15 := by rw [← ht]; exact hB
          obtain ⟨hfe15, ok, hw15, hkp15_0⟩ := hw15
          have hF := mi_letp hF hfe15
          have kp16 : (∀ k f : Nat, Nat.testBit 510 (gpX k f) = true → xi15 k f = mu k f) := kp_t hkp15_0 (by decide) (fun _ _ _ => rfl)
          have gr15 : -3 ≤ r15.toInt ∧ r15.toInt ≤ -3 := hw15
          exact W.iret (v := r15) hx hb hr (fun t ht hW => ⟨⟨r15, xi15, rfl, ⟨hF.trans hfz.symm, ok, trivial, kp16⟩, by first | (subst ht; exact hP) | (rw [ht]; exact hP) | (show va_P (dC, dI) vwCl (wR 157 ad (EX cs ad) xi15) t.heap; rw [ht]; exact hP)⟩, hS.F ht⟩) hS.2.2 dX11_mark_43
      · have hF := (if_neg c_3).symm.trans hF
        have c_3 : 5 < vd.toInt := il_nle c_3
        refine lv_iconst (v := (-1)) hx hb dX11_mark_20 (by decide) ?_
        exact W.iret (v := (-1)) hx hb hr (fun t ht hW => ⟨⟨(-1), mu, rfl, ⟨hF.trans hfz.symm, ok, trivial, (fun _ _ _ => rfl)⟩, by first | (subst ht; exact hP) | (rw [ht]; exact hP) | (show va_P (dC, dI) vwCl (wR 157 ad (EX cs ad) mu) t.heap; rw [ht]; exact hP)⟩, hS.F ht⟩) hS.2.2 dX11_mark_21
  · have hF := (if_neg (fun h => absurd (hfe1.trans h) (by decide))).symm.trans hF
    have f1 : vx.toInt < 0 ∨ (mu 4 6).toInt ≤ vx.toInt := f1
    refine lv_if_eq (tgt := 20) hx hb dX11_mark_8 (by decide) (fun _ => ?_) (fun c => absurd (by decide) c)
    refine lv_iconst (v := (-1)) hx hb dX11_mark_20 (by decide) ?_
    exact W.iret (v := (-1)) hx hb hr (fun t ht hW => ⟨⟨(-1), mu, rfl, ⟨hF.trans hfz.symm, ok, trivial, (fun _ _ _ => rfl)⟩, by first | (subst ht; exact hP) | (rw [ht]; exact hP) | (show va_P (dC, dI) vwCl (wR 157 ad (EX cs ad) mu) t.heap; rw [ht]; exact hP)⟩, hS.F ht⟩) hS.2.2 dX11_mark_21
set_option maxHeartbeats 4000000 in
set_option maxRecDepth 100000 in
/-- qx_gain -/
theorem qx_gain (l : Launch) (dC : Nat → ClassId) (dI : Nat → Nat → Nat) (cs : Nat → ClassId) (ad : Nat → Nat) (mu : Nat → Nat → Int32) (ok : okR loX hiX mu) (H : Heap) (hP : va_P (dC, dI) vwCl (wR 157 ad (EX cs ad) mu) H) (hD0 : va_D (fun _ => True) (wR 157 ad (EX cs ad) mu)) (vx : Int32) : Met l yX11_gain (wU yX11_gain cX11_gain 2 (some .int)) ({ frames := 1, cells := 0, slots := 0, locals := 23 }) (va_Pc [.ref (ad 0), .int vx] (sz_P (dC, dI) vwCl (tyW cs) H)) (va_Qi (fun (z : Int32) (xi : Nat → Nat → Int32) => (z, xi) = F_qx_gain mu vx ∧ okR loX hiX xi ∧ (True) ∧ (∀ k f : Nat, Nat.testBit 510 (gpX k f) = true → xi k f = mu k f)) (fun xi t => va_P (dC, dI) vwCl (wR 157 ad (EX cs ad) xi) t.heap) (va_A (wR 157 ad (EX cs ad) mu) H.size)) 0 0 (va_A (wR 157 ad (EX cs ad) mu) H.size) := by
  refine Met.ofW (cc := cX11_gain) (maxL := 2) (ret := (some .int)) (by decide) rfl ?_
  intro p e s m args below meth c s₁ B hml hv
  obtain ⟨rfl, hh, hK, hz⟩ := hv
  have hx := B.exec
  have hb := B.bytes
  have hr := B.returns
  have hts := atoms_spec (ws := (wU yX11_gain cX11_gain 2 (some .int))) B.pre
  have hown : s.vm.findClass RX11 = some m.cls := findClass_of_methodNamed B.named
  have hlocks := B.notSynchronized
  subst hh
  have hD := hD0.self (sz := s.heap.size)
  have hA : ∀ q : Nat, s.heap.size ≤ q → (va_A (wR 157 ad (EX cs ad) mu) s.heap.size) q := fun q h => Or.inr h
  have hS : va_S (va_A (wR 157 ad (EX cs ad) mu) s.heap.size) s.heap s.heap [] := va_S.rf
  have hl := lv_entry ([.ref (ad 0), .int vx]) (n := 2) (Nat.le_of_ble_eq_true rfl)
  rw [lg_entry_eq]
  generalize (lg_sl ([.ref (ad 0), .int vx]) ++ List.replicate (2 - (lg_sl ([.ref (ad 0), .int vx])).length) Slot.unset).toArray = ls at hl ⊢
  have hl : lv_has ls 2 [(0, .ref (ad 0)), (1, .int vx)] := hl
  obtain ⟨fz, hfz⟩ : ∃ z, F_qx_gain mu vx = z := ⟨_, rfl⟩
  have hF := hfz
  unfold F_qx_gain at hF
  refine lv_aload_n hx hb dX11_gain_0 rfl (lv_at hl 0 rfl) ?_
  refine va_get (D := (dC, dI)) (ci := 11) (v := .ref (ad 4)) (C := RX11) (T := TX11) (N := 11) hx hb hts inG11 hown hK hP 0 (gX_0 cs ad mu) rfl 3 (by decide) (hts _ (List.mem_cons_of_mem _ mw_2_161)) (fun _ h9 => h9) rfl dX11_gain_1 ?_
  refine lv_iload_n hx hb dX11_gain_4 rfl (lv_at hl 1 rfl) ?_
  refine cr_i (va_runV (As := [.int vx]) (rest := []) ⟨hx, hb, hml, hown, hts⟩ (sx_has l dC dI cs ad mu ok s.heap hP vx) (cwV 1 hts (wU_V mw_3_76 mw_3_73 mw_3_74 mw_3_75 mw_1_2) rfl rfl rfl (by decide +kernel) ⟨Nat.le_of_ble_eq_true rfl, Nat.le_of_ble_eq_true rfl⟩) ⟨sz_c, va_recv hK hP (ci := 10) (q0 := 4) rfl (gX_4 cs ad mu), sz_m hK hz⟩ rfl rfl hl.1 rfl (lv_room (Nat.le_of_ble_eq_true rfl)) dX11_gain_5 ⟨Nat.zero_le _, Nat.zero_le _⟩) hS (fun r1 hw1 locs hS => ?_)
  obtain ⟨hfe1, hw1⟩ := hw1
  rcases hw1 with ⟨rfl, f1⟩ | ⟨rfl, f1⟩
  · have hF := (if_pos hfe1.symm).symm.trans hF
    have f1 : 0 ≤ vx.toInt ∧ vx.toInt < (mu 4 6).toInt ∧ (mu 4 6).toInt ≤ 7 := f1
    refine lv_if_ne (tgt := 13) hx hb dX11_gain_8 (by decide) (fun _ => ?_) (fun c => absurd c (by decide))
    refine lv_aload_n hx hb dX11_gain_13 rfl (lv_at hl 0 rfl) ?_
    refine lv_aload_n hx hb dX11_gain_14 rfl (lv_at hl 0 rfl) ?_
    refine va_get (D := (dC, dI)) (ci := 11) (v := .ref (ad 6)) (C := RX11) (T := TX11) (N := 11) hx hb hts inG11 hown hK hP 0 (gX_0 cs ad mu) rfl 5 (by decide) (hts _ (List.mem_cons_of_mem _ mw_2_163)) (fun _ h9 => h9) rfl dX11_gain_15 ?_
    refine lv_iload_n hx hb dX11_gain_18 rfl (lv_at hl 1 rfl) ?_
    refine cr_i (va_runV (As := [.int vx]) (rest := [.ref (ad 0)]) ⟨hx, hb, hml, hown, hts⟩ (sx_gainOf l dC dI cs ad mu ok s.heap hP vx) (cwV 1 hts (wU_V mw_4_154 mw_4_151 mw_4_152 mw_4_153 mw_1_6) rfl rfl rfl (by decide +kernel) ⟨Nat.le_of_ble_eq_true rfl, Nat.le_of_ble_eq_true rfl⟩) ⟨sz_c, va_recv hK hP (ci := 2) (q0 := 6) rfl (gX_6 cs ad mu), sz_m hK hz⟩ rfl rfl hl.1 rfl (lv_room (Nat.le_of_ble_eq_true rfl)) dX11_gain_19 ⟨Nat.zero_le _, Nat.zero_le _⟩) hS (fun r2 hw2 locs hS => ?_)
    obtain ⟨hfe2, hw2⟩ := hw2
    have hF := mi_let hF hfe2
    refine va_put (D := (dC, dI)) (ci := 11) (v := .int r2) (ty := .int) (C := RX11) (T := TX11) (N := 11) hx hb hts inG11 tyX11 tyX11_ok nmX11 hown hK hP (wR_D mu hD) hS 0 (gX_0 cs ad mu) rfl 10 (by decide) (hts _ (List.mem_cons_of_mem _ mw_2_168)) (fun _ h9 => h9) rfl (by decide +kernel) rfl rfl (Nat.le_of_ble_eq_true rfl) dX11_gain_22 (fun H locs hP _ hS => ?_)
    simp only [List.set_cons_succ, List.set_cons_zero] at hP
    refine wr_gen (upd (mu 0) 10 r2) hP ((hX_0_10 cs ad _ _)) (fun nu3 hn3 hP => ?_)
    have hF := mi_let hF hn3.symm
    have ok := tX_0_10 ok hn3
    have kp4 : (∀ k f : Nat, Nat.testBit 510 (gpX k f) = true → nu3 k f = mu k f) := kp_c 0 hn3 (fun _ => rfl) (by decide) (fun _ _ _ => rfl)
    have ez5 : r2 = nu3 0 10 := up_v hn3
    refine lv_iconst (v := 1) hx hb dX11_gain_25 (by decide) ?_
    exact W.iret (v := 1) hx hb hr (fun t ht hW => ⟨⟨1, nu3, rfl, ⟨hF.trans hfz.symm, ok, trivial, kp4⟩, by first | (subst ht; exact hP) | (rw [ht]; exact hP) | (show va_P (dC, dI) vwCl (wR 157 ad (EX cs ad) nu3) t.heap; rw [ht]; exact hP)⟩, hS.F ht⟩) hS.2.2 dX11_gain_26
  · have hF := (if_neg (fun h => absurd (hfe1.trans h) (by decide))).symm.trans hF
    have f1 : vx.toInt < 0 ∨ (mu 4 6).toInt ≤ vx.toInt := f1
    refine lv_if_ne (tgt := 13) hx hb dX11_gain_8 (by decide) (fun c => absurd (by decide) c) (fun _ => ?_)
    refine lv_iconst (v := (-1)) hx hb dX11_gain_11 (by decide) ?_
    exact W.iret (v := (-1)) hx hb hr (fun t ht hW => ⟨⟨(-1), mu, rfl, ⟨hF.trans hfz.symm, ok, trivial, (fun _ _ _ => rfl)⟩, by first | (subst ht; exact hP) | (rw [ht]; exact hP) | (show va_P (dC, dI) vwCl (wR 157 ad (EX cs ad) mu) t.heap; rw [ht]; exact hP)⟩, hS.F ht⟩) hS.2.2 dX11_gain_12
set_option maxHeartbeats 4000000 in
set_option maxRecDepth 100000 in
/-- qx_worth -/
theorem qx_worth (l : Launch) (dC : Nat → ClassId) (dI : Nat → Nat → Nat) (cs : Nat → ClassId) (ad : Nat → Nat) (mu : Nat → Nat → Int32) (ok : okR loX hiX mu) (H : Heap) (hP : va_P (dC, dI) vwCl (wR 157 ad (EX cs ad) mu) H) (hD0 : va_D (fun _ => True) (wR 157 ad (EX cs ad) mu)) (vk : Int32) (vx : Int32) (vd : Int32) : Met l yX11_worth (wU yX11_worth cX11_worth 5 (some .int)) ({ frames := 4, cells := 0, slots := 0, locals := 95 }) (va_Pc [.ref (ad 0), .int vk, .int vx, .int vd] (sz_P (dC, dI) vwCl (tyW cs) H)) (va_Qi (fun (z : Int32) (xi : Nat → Nat → Int32) => okR loX hiX xi ∧ (True) ∧ (∀ k f : Nat, Nat.testBit 510 (gpX k f) = true → xi k f = mu k f)) (fun xi t => va_P (dC, dI) vwCl (wR 157 ad (EX cs ad) xi) t.heap) (va_A (wR 157 ad (EX cs ad) mu) H.size)) 0 0 (va_A (wR 157 ad (EX cs ad) mu) H.size) := by
  refine Met.ofW (cc := cX11_worth) (maxL := 5) (ret := (some .int)) (by decide) rfl ?_
  intro p e s m args below meth c s₁ B hml hv
  obtain ⟨rfl, hh, hK, hz⟩ := hv
  have hx := B.exec
  have hb := B.bytes
  have hr := B.returns
  have hts := atoms_spec (ws := (wU yX11_worth cX11_worth 5 (some .int))) B.pre
  have hown : s.vm.findClass RX11 = some m.cls := findClass_of_methodNamed B.named
  have hlocks := B.notSynchronized
  subst hh
  have hD := hD0.self (sz := s.heap.size)
  have hA : ∀ q : Nat, s.heap.size ≤ q → (va_A (wR 157 ad (EX cs ad) mu) s.heap.size) q := fun q h => Or.inr h
  have hS : va_S (va_A (wR 157 ad (EX cs ad) mu) s.heap.size) s.heap s.heap [] := va_S.rf
  have hl := lv_entry ([.ref (ad 0), .int vk, .int vx, .int vd]) (n := 5) (Nat.le_of_ble_eq_true rfl)
  rw [lg_entry_eq]
  generalize (lg_sl ([.ref (ad 0), .int vk, .int vx, .int vd]) ++ List.replicate (5 - (lg_sl ([.ref (ad 0), .int vk, .int vx, .int vd])).length) Slot.unset).toArray = ls at hl ⊢
  have hl : lv_has ls 5 [(0, .ref (ad 0)), (1, .int vk), (2, .int vx), (3, .int vd)] := hl
  refine lv_aload_n hx hb dX11_worth_0 rfl (lv_at hl 0 rfl) ?_
  refine lv_iload_n hx hb dX11_worth_1 rfl (lv_at hl 1 rfl) ?_
  refine lv_aload_n hx hb dX11_worth_2 rfl (lv_at hl 0 rfl) ?_
  refine va_get (D := (dC, dI)) (ci := 11) (v := .ref (ad 4)) (C := RX11) (T := TX11) (N := 11) hx hb hts inG11 hown hK hP 0 (gX_0 cs ad mu) rfl 3 (by decide) (hts _ (List.mem_cons_of_mem _ mw_2_161)) (fun _ h9 => h9) rfl dX11_worth_3 ?_
  refine lv_iload_n hx hb dX11_worth_6 rfl (lv_at hl 2 rfl) ?_
  refine cr_i (va_runV (As := [.int vx]) (rest := [.int vk, .ref (ad 0)]) ⟨hx, hb, hml, hown, hts⟩ (sx_has l dC dI cs ad mu ok s.heap hP vx) (cwV 1 hts (wU_V mw_3_76 mw_3_73 mw_3_74 mw_3_75 mw_1_2) rfl rfl rfl (by decide +kernel) ⟨Nat.le_of_ble_eq_true rfl, Nat.le_of_ble_eq_true rfl⟩) ⟨sz_c, va_recv hK hP (ci := 10) (q0 := 4) rfl (gX_4 cs ad mu), sz_m hK hz⟩ rfl rfl hl.1 rfl (lv_room (Nat.le_of_ble_eq_true rfl)) dX11_worth_7 ⟨Nat.zero_le _, Nat.zero_le _⟩) hS (fun r1 hw1 locs hS => ?_)
  obtain ⟨hfe1, hw1⟩ := hw1
  rcases hw1 with ⟨rfl, f1⟩ | ⟨rfl, f1⟩
  · have f1 : 0 ≤ vx.toInt ∧ vx.toInt < (mu 4 6).toInt ∧ (mu 4 6).toInt ≤ 7 := f1
    refine lv_if_eq (tgt := 23) hx hb dX11_worth_10 (by decide) (fun c => absurd c (by decide)) (fun _ => ?_)
    refine lv_iload_n hx hb dX11_worth_13 rfl (lv_at hl 3 rfl) ?_
    refine lv_if_lt (tgt := 23) hx hb dX11_worth_14 (by decide) (fun c_2 => ?_) (fun c_2 => ?_)
    · have c_2 : vd.toInt < 0 := il_lt c_2
      refine lv_iconst (v := 1) hx hb dX11_worth_23 (by decide) ?_
      refine lv_goto (tgt := 28) hx hb dX11_worth_24 (by decide) ?_
      have hFc := fr_all (wR_D mu hD) hS hA
      refine va_calli (va_runV (As := [.int vk, .int 1]) (rest := []) ⟨hx, hb, hml, hown, hts⟩ (sx_refusedRoute l dC dI cs ad mu ok s.heap hP ((wR_D mu hD).weaken (fun _ _ _ _ => trivial)) vk 1) (cwV 2 hts (wU_V mw_4_1 mw_3_238 mw_4_0 mw_0_9 mw_1_1) rfl rfl rfl (by decide +kernel) ⟨Nat.le_of_ble_eq_true rfl, Nat.le_of_ble_eq_true rfl⟩) ⟨sz_c, va_recv hK hP (ci := 11) (q0 := 0) rfl (gX_0 cs ad mu), sz_m hK hz⟩ rfl rfl hl.1 rfl (lv_room (Nat.le_of_ble_eq_true rfl)) dX11_worth_28 ⟨Nat.zero_le _, Nat.zero_le _⟩) hS (fun q _ h => hFc q h) hFc (fun r3 xi3 t H3 locs ht hvm hw3 hB hz1 hk1 hS => ?_)
      have hP : va_P (dC, dI) vwCl (wR 157 ad (EX cs ad) xi3) H3 := by rw [← ht]; exact hB
      obtain ⟨hfe3, hw3⟩ := hw3
      rcases hw3 with ⟨rfl, hxi3, f3⟩ | ⟨z3, ok, hkp3_0⟩
      · have f3 : 0 ≤ vk.toInt ∧ vk.toInt < (mu 5 4).toInt ∧ (mu 5 4).toInt ≤ 4 ∧ (1 : Int) = 0 := f3
        exfalso
        have h9 : (1 : Int32).toInt = 1 := rfl
        omega
      · have kp4 : (∀ k f : Nat, Nat.testBit 510 (gpX k f) = true → xi3 k f = mu k f) := kp_t hkp3_0 (by decide) (fun _ _ _ => rfl)
        skip
        refine lv_istore (lv' := [(4, .int r3), (0, .ref (ad 0)), (1, .int vk), (2, .int vx), (3, .int vd)]) hx hb dX11_worth_31 hl (by decide) rfl (fun ls hl => ?_)
        refine lv_iload hx hb dX11_worth_33 (lv_at hl 0 rfl) ?_
        refine lv_if_eq (tgt := 41) hx hb dX11_worth_35 (by decide) (fun c_5 => by have c_5 : r3.toInt = 0 := il_eq c_5; exfalso; omega) (fun c_5 => ?_)
        have c_5 : ¬ r3.toInt = 0 := il_ne c_5
        refine lv_iload hx hb dX11_worth_38 (lv_at hl 0 rfl) ?_
        exact W.iret (v := r3) hx hb hr (fun t ht hW => ⟨⟨r3, xi3, rfl, ⟨ok, trivial, kp4⟩, by first | (subst ht; exact hP) | (rw [ht]; exact hP) | (show va_P (dC, dI) vwCl (wR 157 ad (EX cs ad) xi3) t.heap; rw [ht]; exact hP)⟩, hS.F ht⟩) hS.2.2 dX11_worth_40
    · have c_2 : 0 ≤ vd.toInt := il_nlt c_2
      refine lv_iload_n hx hb dX11_worth_17 rfl (lv_at hl 3 rfl) ?_
      refine lv_bipush (v := 20) hx hb dX11_worth_18 (by decide) ?_
      refine lv_icmp_le (tgt := 27) hx hb dX11_worth_20 (by decide) (fun c_6 => ?_) (fun c_6 => ?_)
      · have c_6 : vd.toInt ≤ 20 := il_le c_6
        refine lv_iconst (v := 0) hx hb dX11_worth_27 (by decide) ?_
        have hFc := fr_all (wR_D mu hD) hS hA
        refine va_calli (va_runV (As := [.int vk, .int 0]) (rest := []) ⟨hx, hb, hml, hown, hts⟩ (sx_refusedRoute l dC dI cs ad mu ok s.heap hP ((wR_D mu hD).weaken (fun _ _ _ _ => trivial)) vk 0) (cwV 2 hts (wU_V mw_4_1 mw_3_238 mw_4_0 mw_0_9 mw_1_1) rfl rfl rfl (by decide +kernel) ⟨Nat.le_of_ble_eq_true rfl, Nat.le_of_ble_eq_true rfl⟩) ⟨sz_c, va_recv hK hP (ci := 11) (q0 := 0) rfl (gX_0 cs ad mu), sz_m hK hz⟩ rfl rfl hl.1 rfl (lv_room (Nat.le_of_ble_eq_true rfl)) dX11_worth_28 ⟨Nat.zero_le _, Nat.zero_le _⟩) hS (fun q _ h => hFc q h) hFc (fun r7 xi7 t H7 locs ht hvm hw7 hB hz1 hk1 hS => ?_)
        have hP : va_P (dC, dI) vwCl (wR 157 ad (EX cs ad) xi7) H7 := by rw [← ht]; exact hB
        obtain ⟨hfe7, hw7⟩ := hw7
        rcases hw7 with ⟨rfl, hxi7, f7⟩ | ⟨z7, ok, hkp7_0⟩
        · have hP : va_P (dC, dI) vwCl (wR 157 ad (EX cs ad) mu) H7 := by rw [← hxi7]; exact hP
          have f7 : 0 ≤ vk.toInt ∧ vk.toInt < (mu 5 4).toInt ∧ (mu 5 4).toInt ≤ 4 ∧ (0 : Int) = 0 := f7
          refine lv_istore (lv' := [(4, .int 0), (0, .ref (ad 0)), (1, .int vk), (2, .int vx), (3, .int vd)]) hx hb dX11_worth_31 hl (by decide) rfl (fun ls hl => ?_)
          refine lv_iload hx hb dX11_worth_33 (lv_at hl 0 rfl) ?_
          refine lv_if_eq (tgt := 41) hx hb dX11_worth_35 (by decide) (fun _ => ?_) (fun c => absurd (by decide) c)
          refine lv_aload_n hx hb dX11_worth_41 rfl (lv_at hl 1 rfl) ?_
          refine va_get (D := (dC, dI)) (ci := 11) (v := .ref (ad 4)) (C := RX11) (T := TX11) (N := 11) hx hb hts inG11 hown hK hP 0 (gX_0 cs ad mu) rfl 3 (by decide) (hts _ (List.mem_cons_of_mem _ mw_2_161)) (fun _ h9 => h9) rfl dX11_worth_42 ?_
          refine lv_aload_n hx hb dX11_worth_45 rfl (lv_at hl 1 rfl) ?_
          refine va_get (D := (dC, dI)) (ci := 11) (v := .ref (ad 4)) (C := RX11) (T := TX11) (N := 11) hx hb hts inG11 hown hK hP 0 (gX_0 cs ad mu) rfl 3 (by decide) (hts _ (List.mem_cons_of_mem _ mw_2_161)) (fun _ h9 => h9) rfl dX11_worth_46 ?_
          refine va_get (D := (dC, dI)) (ci := 10) (v := .ref (ad 5)) (C := RX10) (T := TX10) (N := 8) hx hb hts inG10 hown hK hP 4 (gX_4 cs ad mu) rfl 3 (by decide) (hts _ (List.mem_cons_of_mem _ mw_1_157)) (fun _ h9 => h9) rfl dX11_worth_49 ?_
          refine va_get (D := (dC, dI)) (ci := 8) (v := .ref (ad 47)) (C := RX8) (T := TX8) (N := 6) hx hb hts inG8 hown hK hP 5 (gX_5 cs ad mu) rfl 1 (by decide) (hts _ (List.mem_cons_of_mem _ mw_1_112)) (fun _ h9 => h9) rfl dX11_worth_52 ?_
          refine lv_iload_n hx hb dX11_worth_55 rfl (lv_at hl 2 rfl) ?_
          have hx9 : 0 ≤ vk.toInt ∧ vk.toInt < ((4 : Nat) : Int) := ⟨by omega, by omega⟩
          refine va_aldq hx hb hK hP 47 5 (gX_47 cs ad mu) rfl (show vp_in vk 4 from vi_of hx9.1 hx9.2) dX11_worth_56 ?_
          have hk9 : 61 ≤ (61 + vk.toNatClampNeg) ∧ (61 + vk.toNatClampNeg) < 65 := ix_of hx9
          have hk9 : 61 ≤ (61 + vk.toNatClampNeg) ∧ (61 + vk.toNatClampNeg) < 77 := ⟨Nat.le_trans (by decide) hk9.1, Nat.lt_of_lt_of_le hk9.2 (by decide)⟩
          refine lq_v (.ref (ad (61 + vk.toNatClampNeg))) rfl ?_
          refine lv_iload_n hx hb dX11_worth_57 rfl (lv_at hl 3 rfl) ?_
          refine lv_iload_n hx hb dX11_worth_58 rfl (lv_at hl 4 rfl) ?_
          have hFc := fr_all (wR_D mu hD) hS hA
          refine va_calli (va_runV (As := [.ref (ad (61 + vk.toNatClampNeg)), .int vx, .int vd]) (rest := []) ⟨hx, hb, hml, hown, hts⟩ (sx_worthTo l dC dI cs ad mu ok H7 hP ((wR_D mu hD).weaken (fun _ _ _ _ => trivial)) (61 + vk.toNatClampNeg) hk9.1 hk9.2 vx vd (by omega) (by omega)) (cwV 3 hts (wU_V mw_4_114 mw_4_111 mw_4_112 mw_4_113 mw_1_2) rfl rfl rfl (by decide +kernel) ⟨Nat.le_of_ble_eq_true rfl, Nat.le_of_ble_eq_true rfl⟩) ⟨sz_c, va_recv hK hP (ci := 10) (q0 := 4) rfl (gX_4 cs ad mu), sz_m hK hz⟩ rfl rfl hl.1 rfl (lv_room (Nat.le_of_ble_eq_true rfl)) dX11_worth_59 ⟨Nat.zero_le _, Nat.zero_le _⟩) hS (fun q _ h => hFc q h) hFc (fun r10 xi10 t H10 locs ht hvm hw10 hB hz1 hk1 hS => ?_)
          have hP : va_P (dC, dI) vwCl (wR 157 ad (EX cs ad) xi10) H10 := by rw [← ht]; exact hB
          obtain ⟨ok, hw10, hkp10_0⟩ := hw10
          have kp11 : (∀ k f : Nat, Nat.testBit 510 (gpX k f) = true → xi10 k f = mu k f) := kp_t hkp10_0 (by decide) (fun _ _ _ => rfl)
          exact W.iret (v := r10) hx hb hr (fun t ht hW => ⟨⟨r10, xi10, rfl, ⟨ok, trivial, kp11⟩, by first | (subst ht; exact hP) | (rw [ht]; exact hP) | (show va_P (dC, dI) vwCl (wR 157 ad (EX cs ad) xi10) t.heap; rw [ht]; exact hP)⟩, hS.F ht⟩) hS.2.2 dX11_worth_62
        · have kp8 : (∀ k f : Nat, Nat.testBit 510 (gpX k f) = true → xi7 k f = mu k f) := kp_t hkp7_0 (by decide) (fun _ _ _ => rfl)
          skip
          refine lv_istore (lv' := [(4, .int r7), (0, .ref (ad 0)), (1, .int vk), (2, .int vx), (3, .int vd)]) hx hb dX11_worth_31 hl (by decide) rfl (fun ls hl => ?_)
          refine lv_iload hx hb dX11_worth_33 (lv_at hl 0 rfl) ?_
          refine lv_if_eq (tgt := 41) hx hb dX11_worth_35 (by decide) (fun c_12 => by have c_12 : r7.toInt = 0 := il_eq c_12; exfalso; omega) (fun c_12 => ?_)
          have c_12 : ¬ r7.toInt = 0 := il_ne c_12
          refine lv_iload hx hb dX11_worth_38 (lv_at hl 0 rfl) ?_
          exact W.iret (v := r7) hx hb hr (fun t ht hW => ⟨⟨r7, xi7, rfl, ⟨ok, trivial, kp8⟩, by first | (subst ht; exact hP) | (rw [ht]; exact hP) | (show va_P (dC, dI) vwCl (wR 157 ad (EX cs ad) xi7) t.heap; rw [ht]; exact hP)⟩, hS.F ht⟩) hS.2.2 dX11_worth_40
      · have c_6 : 20 < vd.toInt := il_nle c_6
        refine lv_iconst (v := 1) hx hb dX11_worth_23 (by decide) ?_
        refine lv_goto (tgt := 28) hx hb dX11_worth_24 (by decide) ?_
        have hFc := fr_all (wR_D mu hD) hS hA
        refine va_calli (va_runV (As := [.int vk, .int 1]) (rest := []) ⟨hx, hb, hml, hown, hts⟩ (sx_refusedRoute l dC dI cs ad mu ok s.heap hP ((wR_D mu hD).weaken (fun _ _ _ _ => trivial)) vk 1) (cwV 2 hts (wU_V mw_4_1 mw_3_238 mw_4_0 mw_0_9 mw_1_1) rfl rfl rfl (by decide +kernel) ⟨Nat.le_of_ble_eq_true rfl, Nat.le_of_ble_eq_true rfl⟩) ⟨sz_c, va_recv hK hP (ci := 11) (q0 := 0) rfl (gX_0 cs ad mu), sz_m hK hz⟩ rfl rfl hl.1 rfl (lv_room (Nat.le_of_ble_eq_true rfl)) dX11_worth_28 ⟨Nat.zero_le _, Nat.zero_le _⟩) hS (fun q _ h => hFc q h) hFc (fun r13 xi13 t H13 locs ht hvm hw13 hB hz1 hk1 hS => ?_)
        have hP : va_P (dC, dI) vwCl (wR 157 ad (EX cs ad) xi13) H13 := by rw [← ht]; exact hB
        obtain ⟨hfe13, hw13⟩ := hw13
        rcases hw13 with ⟨rfl, hxi13, f13⟩ | ⟨z13, ok, hkp13_0⟩
        · have f13 : 0 ≤ vk.toInt ∧ vk.toInt < (mu 5 4).toInt ∧ (mu 5 4).toInt ≤ 4 ∧ (1 : Int) = 0 := f13
          exfalso
          have h9 : (1 : Int32).toInt = 1 := rfl
          omega
        · have kp14 : (∀ k f : Nat, Nat.testBit 510 (gpX k f) = true → xi13 k f = mu k f) := kp_t hkp13_0 (by decide) (fun _ _ _ => rfl)
          skip
          refine lv_istore (lv' := [(4, .int r13), (0, .ref (ad 0)), (1, .int vk), (2, .int vx), (3, .int vd)]) hx hb dX11_worth_31 hl (by decide) rfl (fun ls hl => ?_)
          refine lv_iload hx hb dX11_worth_33 (lv_at hl 0 rfl) ?_
          refine lv_if_eq (tgt := 41) hx hb dX11_worth_35 (by decide) (fun c_15 => by have c_15 : r13.toInt = 0 := il_eq c_15; exfalso; omega) (fun c_15 => ?_)
          have c_15 : ¬ r13.toInt = 0 := il_ne c_15
          refine lv_iload hx hb dX11_worth_38 (lv_at hl 0 rfl) ?_
          exact W.iret (v := r13) hx hb hr (fun t ht hW => ⟨⟨r13, xi13, rfl, ⟨ok, trivial, kp14⟩, by first | (subst ht; exact hP) | (rw [ht]; exact hP) | (show va_P (dC, dI) vwCl (wR 157 ad (EX cs ad) xi13) t.heap; rw [ht]; exact hP)⟩, hS.F ht⟩) hS.2.2 dX11_worth_40
  · have f1 : vx.toInt < 0 ∨ (mu 4 6).toInt ≤ vx.toInt := f1
    refine lv_if_eq (tgt := 23) hx hb dX11_worth_10 (by decide) (fun _ => ?_) (fun c => absurd (by decide) c)
    refine lv_iconst (v := 1) hx hb dX11_worth_23 (by decide) ?_
    refine lv_goto (tgt := 28) hx hb dX11_worth_24 (by decide) ?_
    have hFc := fr_all (wR_D mu hD) hS hA
    refine va_calli (va_runV (As := [.int vk, .int 1]) (rest := []) ⟨hx, hb, hml, hown, hts⟩ (sx_refusedRoute l dC dI cs ad mu ok s.heap hP ((wR_D mu hD).weaken (fun _ _ _ _ => trivial)) vk 1) (cwV 2 hts (wU_V mw_4_1 mw_3_238 mw_4_0 mw_0_9 mw_1_1) rfl rfl rfl (by decide +kernel) ⟨Nat.le_of_ble_eq_true rfl, Nat.le_of_ble_eq_true rfl⟩) ⟨sz_c, va_recv hK hP (ci := 11) (q0 := 0) rfl (gX_0 cs ad mu), sz_m hK hz⟩ rfl rfl hl.1 rfl (lv_room (Nat.le_of_ble_eq_true rfl)) dX11_worth_28 ⟨Nat.zero_le _, Nat.zero_le _⟩) hS (fun q _ h => hFc q h) hFc (fun r16 xi16 t H16 locs ht hvm hw16 hB hz1 hk1 hS => ?_)
    have hP : va_P (dC, dI) vwCl (wR 157 ad (EX cs ad) xi16) H16 := by rw [← ht]; exact hB
    obtain ⟨hfe16, hw16⟩ := hw16
    rcases hw16 with ⟨rfl, hxi16, f16⟩ | ⟨z16, ok, hkp16_0⟩
    · have f16 : 0 ≤ vk.toInt ∧ vk.toInt < (mu 5 4).toInt ∧ (mu 5 4).toInt ≤ 4 ∧ (1 : Int) = 0 := f16
      exfalso
      have h9 : (1 : Int32).toInt = 1 := rfl
      omega
    · have kp17 : (∀ k f : Nat, Nat.testBit 510 (gpX k f) = true → xi16 k f = mu k f) := kp_t hkp16_0 (by decide) (fun _ _ _ => rfl)
      skip
      refine lv_istore (lv' := [(4, .int r16), (0, .ref (ad 0)), (1, .int vk), (2, .int vx), (3, .int vd)]) hx hb dX11_worth_31 hl (by decide) rfl (fun ls hl => ?_)
      refine lv_iload hx hb dX11_worth_33 (lv_at hl 0 rfl) ?_
      refine lv_if_eq (tgt := 41) hx hb dX11_worth_35 (by decide) (fun c_18 => by have c_18 : r16.toInt = 0 := il_eq c_18; exfalso; omega) (fun c_18 => ?_)
      have c_18 : ¬ r16.toInt = 0 := il_ne c_18
      refine lv_iload hx hb dX11_worth_38 (lv_at hl 0 rfl) ?_
      exact W.iret (v := r16) hx hb hr (fun t ht hW => ⟨⟨r16, xi16, rfl, ⟨ok, trivial, kp17⟩, by first | (subst ht; exact hP) | (rw [ht]; exact hP) | (show va_P (dC, dI) vwCl (wR 157 ad (EX cs ad) xi16) t.heap; rw [ht]; exact hP)⟩, hS.F ht⟩) hS.2.2 dX11_worth_40
set_option maxHeartbeats 4000000 in
set_option maxRecDepth 100000 in
/-- qx_bundle -/
theorem qx_bundle (l : Launch) (dC : Nat → ClassId) (dI : Nat → Nat → Nat) (cs : Nat → ClassId) (ad : Nat → Nat) (mu : Nat → Nat → Int32) (ok : okR loX hiX mu) (H : Heap) (hP : va_P (dC, dI) vwCl (wR 157 ad (EX cs ad) mu) H) (hD0 : va_D (fun _ => True) (wR 157 ad (EX cs ad) mu)) (vx : Int32) : Met l yX11_bundle (wU yX11_bundle cX11_bundle 7 (some .int)) ({ frames := 4, cells := 0, slots := 0, locals := 99 }) (va_Pc [.ref (ad 0), .int vx] (sz_P (dC, dI) vwCl (tyW cs) H)) (va_Qi (fun (z : Int32) (xi : Nat → Nat → Int32) => (z, xi) = F_qx_bundle mu vx ∧ okR loX hiX xi ∧ (True) ∧ (∀ k f : Nat, Nat.testBit 510 (gpX k f) = true → xi k f = mu k f)) (fun xi t => va_P (dC, dI) vwCl (wR 157 ad (EX cs ad) xi) t.heap) (va_A (wR 157 ad (EX cs ad) mu) H.size)) 0 0 (va_A (wR 157 ad (EX cs ad) mu) H.size) := by
  refine Met.ofW (cc := cX11_bundle) (maxL := 7) (ret := (some .int)) (by decide) rfl ?_
  intro p e s m args below meth c s₁ B hml hv
  obtain ⟨rfl, hh, hK, hz⟩ := hv
  have hx := B.exec
  have hb := B.bytes
  have hr := B.returns
  have hts := atoms_spec (ws := (wU yX11_bundle cX11_bundle 7 (some .int))) B.pre
  have hown : s.vm.findClass RX11 = some m.cls := findClass_of_methodNamed B.named
  have hlocks := B.notSynchronized
  subst hh
  have hD := hD0.self (sz := s.heap.size)
  have hA : ∀ q : Nat, s.heap.size ≤ q → (va_A (wR 157 ad (EX cs ad) mu) s.heap.size) q := fun q h => Or.inr h
  have hS : va_S (va_A (wR 157 ad (EX cs ad) mu) s.heap.size) s.heap s.heap [] := va_S.rf
  have hl := lv_entry ([.ref (ad 0), .int vx]) (n := 7) (Nat.le_of_ble_eq_true rfl)
  rw [lg_entry_eq]
  generalize (lg_sl ([.ref (ad 0), .int vx]) ++ List.replicate (7 - (lg_sl ([.ref (ad 0), .int vx])).length) Slot.unset).toArray = ls at hl ⊢
  have hl : lv_has ls 7 [(0, .ref (ad 0)), (1, .int vx)] := hl
  obtain ⟨fz, hfz⟩ : ∃ z, F_qx_bundle mu vx = z := ⟨_, rfl⟩
  have hF := hfz
  unfold F_qx_bundle at hF
  refine lv_aload_n hx hb dX11_bundle_0 rfl (lv_at hl 0 rfl) ?_
  refine va_get (D := (dC, dI)) (ci := 11) (v := .ref (ad 4)) (C := RX11) (T := TX11) (N := 11) hx hb hts inG11 hown hK hP 0 (gX_0 cs ad mu) rfl 3 (by decide) (hts _ (List.mem_cons_of_mem _ mw_2_161)) (fun _ h9 => h9) rfl dX11_bundle_1 ?_
  refine lv_iload_n hx hb dX11_bundle_4 rfl (lv_at hl 1 rfl) ?_
  refine cr_i (va_runV (As := [.int vx]) (rest := []) ⟨hx, hb, hml, hown, hts⟩ (sx_has l dC dI cs ad mu ok s.heap hP vx) (cwV 1 hts (wU_V mw_3_76 mw_3_73 mw_3_74 mw_3_75 mw_1_2) rfl rfl rfl (by decide +kernel) ⟨Nat.le_of_ble_eq_true rfl, Nat.le_of_ble_eq_true rfl⟩) ⟨sz_c, va_recv hK hP (ci := 10) (q0 := 4) rfl (gX_4 cs ad mu), sz_m hK hz⟩ rfl rfl hl.1 rfl (lv_room (Nat.le_of_ble_eq_true rfl)) dX11_bundle_5 ⟨Nat.zero_le _, Nat.zero_le _⟩) hS (fun r1 hw1 locs hS => ?_)
  obtain ⟨hfe1, hw1⟩ := hw1
  rcases hw1 with ⟨rfl, f1⟩ | ⟨rfl, f1⟩
  · have hF := (if_pos hfe1.symm).symm.trans hF
    have f1 : 0 ≤ vx.toInt ∧ vx.toInt < (mu 4 6).toInt ∧ (mu 4 6).toInt ≤ 7 := f1
    refine lv_if_ne (tgt := 13) hx hb dX11_bundle_8 (by decide) (fun _ => ?_) (fun c => absurd c (by decide))
    refine lv_aload_n hx hb dX11_bundle_13 rfl (lv_at hl 0 rfl) ?_
    refine va_get (D := (dC, dI)) (ci := 11) (v := .ref (ad 4)) (C := RX11) (T := TX11) (N := 11) hx hb hts inG11 hown hK hP 0 (gX_0 cs ad mu) rfl 3 (by decide) (hts _ (List.mem_cons_of_mem _ mw_2_161)) (fun _ h9 => h9) rfl dX11_bundle_14 ?_
    refine lv_iload_n hx hb dX11_bundle_17 rfl (lv_at hl 1 rfl) ?_
    refine cr_i (va_runV (As := [.int vx]) (rest := []) ⟨hx, hb, hml, hown, hts⟩ (sx_buyableBy l dC dI cs ad mu ok s.heap hP vx) (cwV 1 hts (wU_V mw_4_129 mw_4_126 mw_4_127 mw_4_128 mw_1_2) rfl rfl rfl (by decide +kernel) ⟨Nat.le_of_ble_eq_true rfl, Nat.le_of_ble_eq_true rfl⟩) ⟨sz_c, va_recv hK hP (ci := 10) (q0 := 4) rfl (gX_4 cs ad mu), sz_m hK hz⟩ rfl rfl hl.1 rfl (lv_room (Nat.le_of_ble_eq_true rfl)) dX11_bundle_18 ⟨Nat.zero_le _, Nat.zero_le _⟩) hS (fun r2 hw2 locs hS => ?_)
    obtain ⟨hfe2, hw2⟩ := hw2
    have hF := mi_let hF hfe2
    refine lv_istore_n (lv' := [(2, .int r2), (0, .ref (ad 0)), (1, .int vx)]) hx hb dX11_bundle_21 rfl hl (by decide) rfl (fun ls hl => ?_)
    refine lv_iconst (v := 0) hx hb dX11_bundle_22 (by decide) ?_
    refine lv_istore_n (lv' := [(3, .int 0), (2, .int r2), (0, .ref (ad 0)), (1, .int vx)]) hx hb dX11_bundle_23 rfl hl (by decide) rfl (fun ls hl => ?_)
    refine lv_iconst (v := 0) hx hb dX11_bundle_24 (by decide) ?_
    refine lv_istore (lv' := [(4, .int 0), (3, .int 0), (2, .int r2), (0, .ref (ad 0)), (1, .int vx)]) hx hb dX11_bundle_25 hl (by decide) rfl (fun ls hl => ?_)
    refine lv_iconst (v := 1) hx hb dX11_bundle_27 (by decide) ?_
    refine lv_istore (lv' := [(5, .int 1), (4, .int 0), (3, .int 0), (2, .int r2), (0, .ref (ad 0)), (1, .int vx)]) hx hb dX11_bundle_28 hl (by decide) rfl (fun ls hl => ?_)
    have loop30 : ∀ (n30 : Nat) (v3_30 : Int32) (v4_30 : Int32) (v5_30 : Int32) (nu30_ : Nat → Nat → Int32) (H : Heap) (locs : List Loc) (ls : Array Slot), (16 + 1 - v5_30.toInt).toNat < n30 → (0 ≤ v5_30.toInt ∧ v5_30.toInt ≤ 16) → okR loX hiX nu30_ → va_P (dC, dI) vwCl (wR 157 ad (EX cs ad) nu30_) H → (∀ k f : Nat, Nat.testBit 510 (gpX k f) = true → nu30_ k f = mu k f) → L_qx_bundle_30_0 r2 vx n30 v3_30 v4_30 v5_30 nu30_ = fz → va_S (va_A (wR 157 ad (EX cs ad) mu) s.heap.size) s.heap H locs → lv_has ls 7 [(5, .int v5_30), (4, .int v4_30), (3, .int v3_30), (2, .int r2), (0, .ref (ad 0)), (1, .int vx)] → W p l e (headSpec (wU yX11_bundle cX11_bundle 7 (some .int)) ({ frames := 4, cells := 0, slots := 0, locals := 99 })).room s m ([.ref (ad 0), .int vx] : List Value).toArray below meth c H locs 0 0 (MQ below (va_Qi (fun (z : Int32) (xi : Nat → Nat → Int32) => (z, xi) = F_qx_bundle mu vx ∧ okR loX hiX xi ∧ (True) ∧ (∀ k f : Nat, Nat.testBit 510 (gpX k f) = true → xi k f = mu k f)) (fun xi t => va_P (dC, dI) vwCl (wR 157 ad (EX cs ad) xi) t.heap) (va_A (wR 157 ad (EX cs ad) mu) s.heap.size)) ([.ref (ad 0), .int vx] : List Value).toArray s 0 0 (va_A (wR 157 ad (EX cs ad) mu) s.heap.size)) (F0 m 30 ls []) := by
      intro n30
      induction n30 with
      | zero => intro v3_30 v4_30 v5_30 nu30_ H locs ls hm; exact absurd hm (Nat.not_lt_zero _)
      | succ n30 ih30 =>
        intro v3_30 v4_30 v5_30 nu30_ H locs ls hm_30 h_v5_30 ok hP kq30_0 hF hS hl
        rw [L_qx_bundle_30_0] at hF
        refine lv_iload hx hb dX11_bundle_30 (lv_at hl 0 rfl) ?_
        refine lv_bipush (v := 16) hx hb dX11_bundle_32 (by decide) ?_
        refine lv_icmp_ge (tgt := 96) hx hb dX11_bundle_34 (by decide) (fun c_3 => ?_) (fun c_3 => ?_)
        · have hF := (if_pos c_3).symm.trans hF
          have c_3 : 16 ≤ v5_30.toInt := il_le c_3
          refine lv_aload_n hx hb dX11_bundle_96 rfl (lv_at hl 4 rfl) ?_
          refine lv_iload hx hb dX11_bundle_97 (lv_at hl 1 rfl) ?_
          refine va_put (D := (dC, dI)) (ci := 11) (v := .int v4_30) (ty := .int) (C := RX11) (T := TX11) (N := 11) hx hb hts inG11 tyX11 tyX11_ok nmX11 hown hK hP (wR_D nu30_ hD) hS 0 (gX_0 cs ad nu30_) rfl 10 (by decide) (hts _ (List.mem_cons_of_mem _ mw_2_168)) (fun _ h9 => h9) rfl (by decide +kernel) rfl rfl (Nat.le_of_ble_eq_true rfl) dX11_bundle_99 (fun H locs hP _ hS => ?_)
          simp only [List.set_cons_succ, List.set_cons_zero] at hP
          refine wr_gen (upd (nu30_ 0) 10 v4_30) hP ((hX_0_10 cs ad _ _)) (fun nu4 hn4 hP => ?_)
          have hF := mi_let hF hn4.symm
          have ok := tX_0_10 ok hn4
          have kp5 : (∀ k f : Nat, Nat.testBit 510 (gpX k f) = true → nu4 k f = mu k f) := kp_c 0 hn4 (fun _ => rfl) (by decide) kq30_0
          have ez6 : v4_30 = nu4 0 10 := up_v hn4
          refine lv_iload_n hx hb dX11_bundle_102 rfl (lv_at hl 2 rfl) ?_
          exact W.iret (v := v3_30) hx hb hr (fun t ht hW => ⟨⟨v3_30, nu4, rfl, ⟨hF.trans hfz.symm, ok, trivial, kp5⟩, by first | (subst ht; exact hP) | (rw [ht]; exact hP) | (show va_P (dC, dI) vwCl (wR 157 ad (EX cs ad) nu4) t.heap; rw [ht]; exact hP)⟩, hS.F ht⟩) hS.2.2 dX11_bundle_103
        · have hF := (if_neg c_3).symm.trans hF
          have c_3 : v5_30.toInt < 16 := il_nle c_3
          refine lv_iload hx hb dX11_bundle_37 (lv_at hl 0 rfl) ?_
          refine cr_i (va_runS (As := [.int v5_30]) (rest := []) ⟨hx, hb, hml, hown, hts⟩ (sx_bitCount l dC dI (tyW cs) H v5_30) (va_cwS 1 hts (wU_S mw_3_90 mw_4_98 mw_3_89 mw_1_16) rfl rfl rfl (by decide +kernel) ⟨Nat.le_of_ble_eq_true rfl, Nat.le_of_ble_eq_true rfl⟩) ⟨sz_c, sz_m hK hz⟩ rfl rfl hl.1 rfl (lv_room (Nat.le_of_ble_eq_true rfl)) dX11_bundle_39 ⟨Nat.zero_le _, Nat.zero_le _⟩) hS (fun r7 hw7 locs hS => ?_)
          obtain ⟨hfe7, hw7⟩ := hw7
          have hF := mi_let hF hfe7
          refine lv_istore (lv' := [(6, .int r7), (5, .int v5_30), (4, .int v4_30), (3, .int v3_30), (2, .int r2), (0, .ref (ad 0)), (1, .int vx)]) hx hb dX11_bundle_42 hl (by decide) rfl (fun ls hl => ?_)
          refine lv_iload hx hb dX11_bundle_44 (lv_at hl 0 rfl) ?_
          refine lv_iload_n hx hb dX11_bundle_46 rfl (lv_at hl 3 rfl) ?_
          refine lv_icmp_le (tgt := 90) hx hb dX11_bundle_47 (by decide) (fun c_8 => ?_) (fun c_8 => ?_)
          · have hF := (if_pos c_8).symm.trans hF
            have c_8 : r7.toInt ≤ v3_30.toInt := il_le c_8
            refine lv_iinc (v := (v5_30 + 1)) (lv' := [(5, .int (v5_30 + 1)), (6, .int r7), (4, .int v4_30), (3, .int v3_30), (2, .int r2), (0, .ref (ad 0)), (1, .int vx)]) hx hb dX11_bundle_90 hl (k := 1) rfl rfl (by decide) rfl (fun ls hl => ?_)
            refine loc_gen (P := fun w9 => lv_has ls 7 [(5, .int w9), (6, .int r7), (4, .int v4_30), (3, .int v3_30), (2, .int r2), (0, .ref (ad 0)), (1, .int vx)]) (v5_30 + 1) hl (fun w9 hw9 hl => ?_)
            have hl : lv_has ls 7 [(5, .int w9), (6, .int r7), (4, .int v4_30), (3, .int v3_30), (2, .int r2), (0, .ref (ad 0)), (1, .int vx)] := hl
            have hF := mi_let hF hw9.symm
            have aw9 : w9.toInt = v5_30.toInt + 1 := by rw [← hw9]; first | exact va1 (Int.lt_of_le_of_lt h_v5_30.2 (by decide)) | exact va1 (by omega)
            refine lv_goto (tgt := 30) hx hb dX11_bundle_93 (by decide) ?_
            exact ih30 (v3_30) (v4_30) (w9) nu30_ _ _ _ (by first | exact ms_up hm_30 aw9 h_v5_30.2 | exact ms_lt hm_30 (by omega) (by omega) | omega) (by first | exact rg_up aw9 h_v5_30 (by omega) | omega)  ok hP  kq30_0 hF hS (lv_sub hl [0, 2, 3, 4, 5, 6] rfl)
          · have hF := (if_neg c_8).symm.trans hF
            have c_8 : v3_30.toInt < r7.toInt := il_nle c_8
            refine lv_iload hx hb dX11_bundle_50 (lv_at hl 1 rfl) ?_
            refine lv_iload_n hx hb dX11_bundle_52 rfl (lv_at hl 4 rfl) ?_
            refine lv_iconst (v := (-1)) hx hb dX11_bundle_53 (by decide) ?_
            refine lv_ixor hx hb dX11_bundle_54 ?_
            refine lv_topi (fun t10 et10 => ?_)
            have hF := mi_let hF et10
            refine lv_iand hx hb dX11_bundle_55 ?_
            refine lv_topi (fun t11 et11 => ?_)
            have hF := mi_let hF et11
            refine lv_if_ne (tgt := 90) hx hb dX11_bundle_56 (by decide) (fun c_12 => ?_) (fun c_12 => ?_)
            · have hF := (if_neg c_12).symm.trans hF
              have c_12 : ¬ t11.toInt = 0 := il_ne c_12
              refine lv_iinc (v := (v5_30 + 1)) (lv' := [(5, .int (v5_30 + 1)), (6, .int r7), (4, .int v4_30), (3, .int v3_30), (2, .int r2), (0, .ref (ad 0)), (1, .int vx)]) hx hb dX11_bundle_90 hl (k := 1) rfl rfl (by decide) rfl (fun ls hl => ?_)
              refine loc_gen (P := fun w9 => lv_has ls 7 [(5, .int w9), (6, .int r7), (4, .int v4_30), (3, .int v3_30), (2, .int r2), (0, .ref (ad 0)), (1, .int vx)]) (v5_30 + 1) hl (fun w13 hw13 hl => ?_)
              have hl : lv_has ls 7 [(5, .int w13), (6, .int r7), (4, .int v4_30), (3, .int v3_30), (2, .int r2), (0, .ref (ad 0)), (1, .int vx)] := hl
              have hF := mi_let hF hw13.symm
              have aw13 : w13.toInt = v5_30.toInt + 1 := by rw [← hw13]; first | exact va1 (Int.lt_of_le_of_lt h_v5_30.2 (by decide)) | exact va1 (by omega)
              refine lv_goto (tgt := 30) hx hb dX11_bundle_93 (by decide) ?_
              exact ih30 (v3_30) (v4_30) (w13) nu30_ _ _ _ (by first | exact ms_up hm_30 aw13 h_v5_30.2 | exact ms_lt hm_30 (by omega) (by omega) | omega) (by first | exact rg_up aw13 h_v5_30 (by omega) | omega)  ok hP  kq30_0 hF hS (lv_sub hl [0, 2, 3, 4, 5, 6] rfl)
            · have hF := (if_pos c_12).symm.trans hF
              have c_12 : t11.toInt = 0 := il_eq c_12
              refine lv_aload_n hx hb dX11_bundle_59 rfl (lv_at hl 5 rfl) ?_
              refine va_get (D := (dC, dI)) (ci := 11) (v := .ref (ad 4)) (C := RX11) (T := TX11) (N := 11) hx hb hts inG11 hown hK hP 0 (gX_0 cs ad nu30_) rfl 3 (by decide) (hts _ (List.mem_cons_of_mem _ mw_2_161)) (fun _ h9 => h9) rfl dX11_bundle_60 ?_
              refine lv_iload hx hb dX11_bundle_63 (lv_at hl 1 rfl) ?_
              refine cr_i (va_runV (As := [.int v5_30]) (rest := []) ⟨hx, hb, hml, hown, hts⟩ (sx_priceOfAll l dC dI cs ad nu30_ ok H hP v5_30) (cwV 1 hts (wU_V mw_4_134 mw_4_131 mw_4_132 mw_4_133 mw_1_2) rfl rfl rfl (by decide +kernel) ⟨Nat.le_of_ble_eq_true rfl, Nat.le_of_ble_eq_true rfl⟩) ⟨sz_c, va_recv hK hP (ci := 10) (q0 := 4) rfl (gX_4 cs ad nu30_), sz_m hK hz⟩ rfl rfl hl.1 rfl (lv_room (Nat.le_of_ble_eq_true rfl)) dX11_bundle_65 ⟨Nat.zero_le _, Nat.zero_le _⟩) hS (fun r14 hw14 locs hS => ?_)
              obtain ⟨hfe14, hw14⟩ := hw14
              have hF := mi_let hF hfe14
              refine lv_aload_n hx hb dX11_bundle_68 rfl (lv_at hl 5 rfl) ?_
              refine va_get (D := (dC, dI)) (ci := 11) (v := .ref (ad 4)) (C := RX11) (T := TX11) (N := 11) hx hb hts inG11 hown hK hP 0 (gX_0 cs ad nu30_) rfl 3 (by decide) (hts _ (List.mem_cons_of_mem _ mw_2_161)) (fun _ h9 => h9) rfl dX11_bundle_69 ?_
              refine va_get (D := (dC, dI)) (ci := 10) (v := .ref (ad 5)) (C := RX10) (T := TX10) (N := 8) hx hb hts inG10 hown hK hP 4 (gX_4 cs ad nu30_) rfl 3 (by decide) (hts _ (List.mem_cons_of_mem _ mw_1_157)) (fun _ h9 => h9) rfl dX11_bundle_72 ?_
              refine va_get (D := (dC, dI)) (ci := 8) (v := .ref (ad 46)) (C := RX8) (T := TX8) (N := 6) hx hb hts inG8 hown hK hP 5 (gX_5 cs ad nu30_) rfl 0 (by decide) (hts _ (List.mem_cons_of_mem _ mw_1_108)) (fun _ h9 => h9) rfl dX11_bundle_75 ?_
              refine lv_iload_n hx hb dX11_bundle_78 rfl (lv_at hl 6 rfl) ?_
              refine va_iald hx hb hK hP 46 0 (gX_46 cs ad nu30_) rfl (show vp_in vx 7 from vi_of (by omega) (by omega)) dX11_bundle_79 ?_
              refine lv_topi (fun y15 ey15 => ?_)
              have hF := mi_let hF ey15
              have by15 : y15.toInt = (nu30_ 46 vx.toNatClampNeg).toInt := congrArg Int32.toInt ey15
              refine lv_icmp_gt (tgt := 90) hx hb dX11_bundle_80 (by decide) (fun c_16 => ?_) (fun c_16 => ?_)
              · have hF := (if_pos c_16).symm.trans hF
                have c_16 : y15.toInt < r14.toInt := il_lt c_16
                refine lv_iinc (v := (v5_30 + 1)) (lv' := [(5, .int (v5_30 + 1)), (6, .int r7), (4, .int v4_30), (3, .int v3_30), (2, .int r2), (0, .ref (ad 0)), (1, .int vx)]) hx hb dX11_bundle_90 hl (k := 1) rfl rfl (by decide) rfl (fun ls hl => ?_)
                refine loc_gen (P := fun w9 => lv_has ls 7 [(5, .int w9), (6, .int r7), (4, .int v4_30), (3, .int v3_30), (2, .int r2), (0, .ref (ad 0)), (1, .int vx)]) (v5_30 + 1) hl (fun w17 hw17 hl => ?_)
                have hl : lv_has ls 7 [(5, .int w17), (6, .int r7), (4, .int v4_30), (3, .int v3_30), (2, .int r2), (0, .ref (ad 0)), (1, .int vx)] := hl
                have hF := mi_let hF hw17.symm
                have aw17 : w17.toInt = v5_30.toInt + 1 := by rw [← hw17]; first | exact va1 (Int.lt_of_le_of_lt h_v5_30.2 (by decide)) | exact va1 (by omega)
                refine lv_goto (tgt := 30) hx hb dX11_bundle_93 (by decide) ?_
                exact ih30 (v3_30) (v4_30) (w17) nu30_ _ _ _ (by first | exact ms_up hm_30 aw17 h_v5_30.2 | exact ms_lt hm_30 (by omega) (by omega) | omega) (by first | exact rg_up aw17 h_v5_30 (by omega) | omega)  ok hP  kq30_0 hF hS (lv_sub hl [0, 2, 3, 4, 5, 6] rfl)
              · have hF := (if_neg c_16).symm.trans hF
                have c_16 : r14.toInt ≤ y15.toInt := il_nlt c_16
                refine lv_iload hx hb dX11_bundle_83 (lv_at hl 0 rfl) ?_
                refine lv_istore_n (lv' := [(3, .int r7), (6, .int r7), (5, .int v5_30), (4, .int v4_30), (2, .int r2), (0, .ref (ad 0)), (1, .int vx)]) hx hb dX11_bundle_85 rfl hl (by decide) rfl (fun ls hl => ?_)
                refine lv_iload hx hb dX11_bundle_86 (lv_at hl 2 rfl) ?_
                refine lv_istore (lv' := [(4, .int v5_30), (3, .int r7), (6, .int r7), (5, .int v5_30), (2, .int r2), (0, .ref (ad 0)), (1, .int vx)]) hx hb dX11_bundle_88 hl (by decide) rfl (fun ls hl => ?_)
                refine lv_iinc (v := (v5_30 + 1)) (lv' := [(5, .int (v5_30 + 1)), (4, .int v5_30), (3, .int r7), (6, .int r7), (2, .int r2), (0, .ref (ad 0)), (1, .int vx)]) hx hb dX11_bundle_90 hl (k := 3) rfl rfl (by decide) rfl (fun ls hl => ?_)
                refine loc_gen (P := fun w9 => lv_has ls 7 [(5, .int w9), (4, .int v5_30), (3, .int r7), (6, .int r7), (2, .int r2), (0, .ref (ad 0)), (1, .int vx)]) (v5_30 + 1) hl (fun w18 hw18 hl => ?_)
                have hl : lv_has ls 7 [(5, .int w18), (4, .int v5_30), (3, .int r7), (6, .int r7), (2, .int r2), (0, .ref (ad 0)), (1, .int vx)] := hl
                have hF := mi_let hF hw18.symm
                have aw18 : w18.toInt = v5_30.toInt + 1 := by rw [← hw18]; first | exact va1 (Int.lt_of_le_of_lt h_v5_30.2 (by decide)) | exact va1 (by omega)
                refine lv_goto (tgt := 30) hx hb dX11_bundle_93 (by decide) ?_
                exact ih30 (r7) (v5_30) (w18) nu30_ _ _ _ (by first | exact ms_up hm_30 aw18 h_v5_30.2 | exact ms_lt hm_30 (by omega) (by omega) | omega) (by first | exact rg_up aw18 h_v5_30 (by omega) | omega)  ok hP  kq30_0 hF hS (lv_sub hl [0, 1, 2, 4, 5, 6] rfl)
    exact loop30 19 (0) (0) (1) mu _ _ _ (by have h80 : (0 : Int32).toInt = 0 := rfl; have h81 : (0 : Int32).toInt = 0 := rfl; have h82 : (1 : Int32).toInt = 1 := rfl; omega) (by have h80 : (1 : Int32).toInt = 1 := rfl; exact ⟨by omega, by omega⟩)  ok hP  (fun _ _ _ => rfl) hF hS hl
  · have hF := (if_neg (fun h => absurd (hfe1.trans h) (by decide))).symm.trans hF
    have f1 : vx.toInt < 0 ∨ (mu 4 6).toInt ≤ vx.toInt := f1
    refine lv_if_ne (tgt := 13) hx hb dX11_bundle_8 (by decide) (fun c => absurd (by decide) c) (fun _ => ?_)
    refine lv_iconst (v := (-1)) hx hb dX11_bundle_11 (by decide) ?_
    exact W.iret (v := (-1)) hx hb hr (fun t ht hW => ⟨⟨(-1), mu, rfl, ⟨hF.trans hfz.symm, ok, trivial, (fun _ _ _ => rfl)⟩, by first | (subst ht; exact hP) | (rw [ht]; exact hP) | (show va_P (dC, dI) vwCl (wR 157 ad (EX cs ad) mu) t.heap; rw [ht]; exact hP)⟩, hS.F ht⟩) hS.2.2 dX11_bundle_12
set_option maxHeartbeats 4000000 in
set_option maxRecDepth 100000 in
/-- qx_upper -/
theorem qx_upper (l : Launch) (dC : Nat → ClassId) (dI : Nat → Nat → Nat) (cs : Nat → ClassId) (ad : Nat → Nat) (mu : Nat → Nat → Int32) (ok : okR loX hiX mu) (H : Heap) (hP : va_P (dC, dI) vwCl (wR 157 ad (EX cs ad) mu) H) (hD0 : va_D (fun _ => True) (wR 157 ad (EX cs ad) mu)) : Met l yX11_upper (wU yX11_upper cX11_upper 3 (some .long)) ({ frames := 2, cells := 0, slots := 0, locals := 53 }) (va_Pc [.ref (ad 0)] (sz_P (dC, dI) vwCl (tyW cs) H)) (va_Ql (fun (z : Int64) (xi : Nat → Nat → Int32) => (z, xi) = F_qx_upper mu ∧ okR loX hiX xi ∧ (True) ∧ (∀ k f : Nat, Nat.testBit 510 (gpX k f) = true → xi k f = mu k f)) (fun xi t => va_P (dC, dI) vwCl (wR 157 ad (EX cs ad) xi) t.heap) (va_A (wR 157 ad (EX cs ad) mu) H.size)) 0 0 (va_A (wR 157 ad (EX cs ad) mu) H.size) := by
  refine Met.ofW (cc := cX11_upper) (maxL := 3) (ret := (some .long)) (by decide) rfl ?_
  intro p e s m args below meth c s₁ B hml hv
  obtain ⟨rfl, hh, hK, hz⟩ := hv
  have hx := B.exec
  have hb := B.bytes
  have hr := B.returns
  have hts := atoms_spec (ws := (wU yX11_upper cX11_upper 3 (some .long))) B.pre
  have hown : s.vm.findClass RX11 = some m.cls := findClass_of_methodNamed B.named
  have hlocks := B.notSynchronized
  subst hh
  have hD := hD0.self (sz := s.heap.size)
  have hA : ∀ q : Nat, s.heap.size ≤ q → (va_A (wR 157 ad (EX cs ad) mu) s.heap.size) q := fun q h => Or.inr h
  have hS : va_S (va_A (wR 157 ad (EX cs ad) mu) s.heap.size) s.heap s.heap [] := va_S.rf
  have hl := lv_entry ([.ref (ad 0)]) (n := 3) (Nat.le_of_ble_eq_true rfl)
  rw [lg_entry_eq]
  generalize (lg_sl ([.ref (ad 0)]) ++ List.replicate (3 - (lg_sl ([.ref (ad 0)])).length) Slot.unset).toArray = ls at hl ⊢
  have hl : lv_has ls 3 [(0, .ref (ad 0))] := hl
  obtain ⟨fz, hfz⟩ : ∃ z, F_qx_upper mu = z := ⟨_, rfl⟩
  have hF := hfz
  unfold F_qx_upper at hF
  refine lv_aload_n hx hb dX11_upper_0 rfl (lv_at hl 0 rfl) ?_
  refine va_get (D := (dC, dI)) (ci := 11) (v := .ref (ad 4)) (C := RX11) (T := TX11) (N := 11) hx hb hts inG11 hown hK hP 0 (gX_0 cs ad mu) rfl 3 (by decide) (hts _ (List.mem_cons_of_mem _ mw_2_161)) (fun _ h9 => h9) rfl dX11_upper_1 ?_
  refine cr_l (va_runV (As := []) (rest := []) ⟨hx, hb, hml, hown, hts⟩ (sx_richestPurse l dC dI cs ad mu ok s.heap hP) (cwV 0 hts (wU_V mw_4_207 mw_4_204 mw_4_205 mw_4_206 mw_1_2) rfl rfl rfl (by decide +kernel) ⟨Nat.le_of_ble_eq_true rfl, Nat.le_of_ble_eq_true rfl⟩) ⟨sz_c, va_recv hK hP (ci := 10) (q0 := 4) rfl (gX_4 cs ad mu), sz_m hK hz⟩ rfl rfl hl.1 rfl (lv_room (Nat.le_of_ble_eq_true rfl)) dX11_upper_4 ⟨Nat.zero_le _, Nat.zero_le _⟩) hS (fun r1 hw1 locs hS => ?_)
  obtain ⟨hfe1, hw1⟩ := hw1
  have hF := mi_let hF hfe1
  refine lv_aload_n hx hb dX11_upper_7 rfl (lv_at hl 0 rfl) ?_
  refine va_get (D := (dC, dI)) (ci := 11) (v := .ref (ad 4)) (C := RX11) (T := TX11) (N := 11) hx hb hts inG11 hown hK hP 0 (gX_0 cs ad mu) rfl 3 (by decide) (hts _ (List.mem_cons_of_mem _ mw_2_161)) (fun _ h9 => h9) rfl dX11_upper_8 ?_
  refine cr_l (va_runV (As := []) (rest := [.long r1]) ⟨hx, hb, hml, hown, hts⟩ (sx_allPurses l dC dI cs ad mu ok s.heap hP) (cwV 0 hts (wU_V mw_4_214 mw_4_211 mw_4_212 mw_4_213 mw_1_2) rfl rfl rfl (by decide +kernel) ⟨Nat.le_of_ble_eq_true rfl, Nat.le_of_ble_eq_true rfl⟩) ⟨sz_c, va_recv hK hP (ci := 10) (q0 := 4) rfl (gX_4 cs ad mu), sz_m hK hz⟩ rfl rfl hl.1 rfl (lv_room (Nat.le_of_ble_eq_true rfl)) dX11_upper_11 ⟨Nat.zero_le _, Nat.zero_le _⟩) hS (fun r2 hw2 locs hS => ?_)
  obtain ⟨hfe2, hw2⟩ := hw2
  have hF := mi_let hF hfe2
  refine cr_l (va_runS (As := [.long r1, .long r2]) (rest := []) ⟨hx, hb, hml, hown, hts⟩ (sx_commonDivisor l dC dI (tyW cs) s.heap r1 r2) (va_cwS 2 hts (wU_S mw_4_217 mw_4_215 mw_4_216 mw_1_1) rfl rfl rfl (by decide +kernel) ⟨Nat.le_of_ble_eq_true rfl, Nat.le_of_ble_eq_true rfl⟩) ⟨sz_c, sz_m hK hz⟩ rfl rfl hl.1 rfl (lv_room (Nat.le_of_ble_eq_true rfl)) dX11_upper_14 ⟨Nat.zero_le _, Nat.zero_le _⟩) hS (fun r3 hw3 locs hS => ?_)
  obtain ⟨hfe3, hw3⟩ := hw3
  have hF := mi_let hF hfe3
  refine lv_lstore_n (lv' := [(1, .long r3), (0, .ref (ad 0))]) hx hb dX11_upper_17 rfl hl (by decide) rfl (fun ls hl => ?_)
  refine lv_lload_n hx hb dX11_upper_18 rfl (lv_at hl 0 rfl) ?_
  refine lv_lconst (v := 0) hx hb dX11_upper_19 (by decide) ?_
  refine W.lcmp hx hb dX11_upper_20 ?_
  refine lv_topi (fun t4 et4 => ?_)
  have hF := mi_let hF et4
  refine lv_if_ne (tgt := 28) hx hb dX11_upper_21 (by decide) (fun c_5 => ?_) (fun c_5 => ?_)
  · have hF := (if_neg c_5).symm.trans hF
    have c_5 : ¬ t4.toInt = 0 := il_ne c_5
    refine lv_aload_n hx hb dX11_upper_28 rfl (lv_at hl 1 rfl) ?_
    refine va_get (D := (dC, dI)) (ci := 11) (v := .ref (ad 4)) (C := RX11) (T := TX11) (N := 11) hx hb hts inG11 hown hK hP 0 (gX_0 cs ad mu) rfl 3 (by decide) (hts _ (List.mem_cons_of_mem _ mw_2_161)) (fun _ h9 => h9) rfl dX11_upper_29 ?_
    refine cr_l (va_runV (As := []) (rest := []) ⟨hx, hb, hml, hown, hts⟩ (sx_richestPurse l dC dI cs ad mu ok s.heap hP) (cwV 0 hts (wU_V mw_4_207 mw_4_204 mw_4_205 mw_4_206 mw_1_2) rfl rfl rfl (by decide +kernel) ⟨Nat.le_of_ble_eq_true rfl, Nat.le_of_ble_eq_true rfl⟩) ⟨sz_c, va_recv hK hP (ci := 10) (q0 := 4) rfl (gX_4 cs ad mu), sz_m hK hz⟩ rfl rfl hl.1 rfl (lv_room (Nat.le_of_ble_eq_true rfl)) dX11_upper_32 ⟨Nat.zero_le _, Nat.zero_le _⟩) hS (fun r6 hw6 locs hS => ?_)
    obtain ⟨hfe6, hw6⟩ := hw6
    have hF := mi_let hF hfe6
    refine lv_lload_n hx hb dX11_upper_35 rfl (lv_at hl 0 rfl) ?_
    refine lv_ldiv hx hb dX11_upper_36 (fun h9 => absurd (show t4.toInt = 0 by rw [et4, h9]; decide) c_5) ?_
    refine lv_topl (fun l7 el7 => ?_)
    have hF := mi_let hF el7
    exact W.lret (v := l7) hx hb hr (fun t ht hW => ⟨⟨l7, mu, rfl, ⟨hF.trans hfz.symm, ok, trivial, (fun _ _ _ => rfl)⟩, by first | (subst ht; exact hP) | (rw [ht]; exact hP) | (show va_P (dC, dI) vwCl (wR 157 ad (EX cs ad) mu) t.heap; rw [ht]; exact hP)⟩, hS.F ht⟩) hS.2.2 dX11_upper_37
  · have hF := (if_pos c_5).symm.trans hF
    have c_5 : t4.toInt = 0 := il_eq c_5
    refine lv_lconst (v := 0) hx hb dX11_upper_24 (by decide) ?_
    refine lv_goto (tgt := 37) hx hb dX11_upper_25 (by decide) ?_
    exact W.lret (v := 0) hx hb hr (fun t ht hW => ⟨⟨0, mu, rfl, ⟨hF.trans hfz.symm, ok, trivial, (fun _ _ _ => rfl)⟩, by first | (subst ht; exact hP) | (rw [ht]; exact hP) | (show va_P (dC, dI) vwCl (wR 157 ad (EX cs ad) mu) t.heap; rw [ht]; exact hP)⟩, hS.F ht⟩) hS.2.2 dX11_upper_37
set_option maxHeartbeats 4000000 in
set_option maxRecDepth 100000 in
/-- qx_lower -/
theorem qx_lower (l : Launch) (dC : Nat → ClassId) (dI : Nat → Nat → Nat) (cs : Nat → ClassId) (ad : Nat → Nat) (mu : Nat → Nat → Int32) (ok : okR loX hiX mu) (H : Heap) (hP : va_P (dC, dI) vwCl (wR 157 ad (EX cs ad) mu) H) (hD0 : va_D (fun _ => True) (wR 157 ad (EX cs ad) mu)) : Met l yX11_lower (wU yX11_lower cX11_lower 3 (some .long)) ({ frames := 2, cells := 0, slots := 0, locals := 53 }) (va_Pc [.ref (ad 0)] (sz_P (dC, dI) vwCl (tyW cs) H)) (va_Ql (fun (z : Int64) (xi : Nat → Nat → Int32) => (z, xi) = F_qx_lower mu ∧ okR loX hiX xi ∧ (True) ∧ (∀ k f : Nat, Nat.testBit 510 (gpX k f) = true → xi k f = mu k f)) (fun xi t => va_P (dC, dI) vwCl (wR 157 ad (EX cs ad) xi) t.heap) (va_A (wR 157 ad (EX cs ad) mu) H.size)) 0 0 (va_A (wR 157 ad (EX cs ad) mu) H.size) := by
  refine Met.ofW (cc := cX11_lower) (maxL := 3) (ret := (some .long)) (by decide) rfl ?_
  intro p e s m args below meth c s₁ B hml hv
  obtain ⟨rfl, hh, hK, hz⟩ := hv
  have hx := B.exec
  have hb := B.bytes
  have hr := B.returns
  have hts := atoms_spec (ws := (wU yX11_lower cX11_lower 3 (some .long))) B.pre
  have hown : s.vm.findClass RX11 = some m.cls := findClass_of_methodNamed B.named
  have hlocks := B.notSynchronized
  subst hh
  have hD := hD0.self (sz := s.heap.size)
  have hA : ∀ q : Nat, s.heap.size ≤ q → (va_A (wR 157 ad (EX cs ad) mu) s.heap.size) q := fun q h => Or.inr h
  have hS : va_S (va_A (wR 157 ad (EX cs ad) mu) s.heap.size) s.heap s.heap [] := va_S.rf
  have hl := lv_entry ([.ref (ad 0)]) (n := 3) (Nat.le_of_ble_eq_true rfl)
  rw [lg_entry_eq]
  generalize (lg_sl ([.ref (ad 0)]) ++ List.replicate (3 - (lg_sl ([.ref (ad 0)])).length) Slot.unset).toArray = ls at hl ⊢
  have hl : lv_has ls 3 [(0, .ref (ad 0))] := hl
  obtain ⟨fz, hfz⟩ : ∃ z, F_qx_lower mu = z := ⟨_, rfl⟩
  have hF := hfz
  unfold F_qx_lower at hF
  refine lv_aload_n hx hb dX11_lower_0 rfl (lv_at hl 0 rfl) ?_
  refine va_get (D := (dC, dI)) (ci := 11) (v := .ref (ad 4)) (C := RX11) (T := TX11) (N := 11) hx hb hts inG11 hown hK hP 0 (gX_0 cs ad mu) rfl 3 (by decide) (hts _ (List.mem_cons_of_mem _ mw_2_161)) (fun _ h9 => h9) rfl dX11_lower_1 ?_
  refine cr_l (va_runV (As := []) (rest := []) ⟨hx, hb, hml, hown, hts⟩ (sx_richestPurse l dC dI cs ad mu ok s.heap hP) (cwV 0 hts (wU_V mw_4_207 mw_4_204 mw_4_205 mw_4_206 mw_1_2) rfl rfl rfl (by decide +kernel) ⟨Nat.le_of_ble_eq_true rfl, Nat.le_of_ble_eq_true rfl⟩) ⟨sz_c, va_recv hK hP (ci := 10) (q0 := 4) rfl (gX_4 cs ad mu), sz_m hK hz⟩ rfl rfl hl.1 rfl (lv_room (Nat.le_of_ble_eq_true rfl)) dX11_lower_4 ⟨Nat.zero_le _, Nat.zero_le _⟩) hS (fun r1 hw1 locs hS => ?_)
  obtain ⟨hfe1, hw1⟩ := hw1
  have hF := mi_let hF hfe1
  refine lv_aload_n hx hb dX11_lower_7 rfl (lv_at hl 0 rfl) ?_
  refine va_get (D := (dC, dI)) (ci := 11) (v := .ref (ad 4)) (C := RX11) (T := TX11) (N := 11) hx hb hts inG11 hown hK hP 0 (gX_0 cs ad mu) rfl 3 (by decide) (hts _ (List.mem_cons_of_mem _ mw_2_161)) (fun _ h9 => h9) rfl dX11_lower_8 ?_
  refine cr_l (va_runV (As := []) (rest := [.long r1]) ⟨hx, hb, hml, hown, hts⟩ (sx_allPurses l dC dI cs ad mu ok s.heap hP) (cwV 0 hts (wU_V mw_4_214 mw_4_211 mw_4_212 mw_4_213 mw_1_2) rfl rfl rfl (by decide +kernel) ⟨Nat.le_of_ble_eq_true rfl, Nat.le_of_ble_eq_true rfl⟩) ⟨sz_c, va_recv hK hP (ci := 10) (q0 := 4) rfl (gX_4 cs ad mu), sz_m hK hz⟩ rfl rfl hl.1 rfl (lv_room (Nat.le_of_ble_eq_true rfl)) dX11_lower_11 ⟨Nat.zero_le _, Nat.zero_le _⟩) hS (fun r2 hw2 locs hS => ?_)
  obtain ⟨hfe2, hw2⟩ := hw2
  have hF := mi_let hF hfe2
  refine cr_l (va_runS (As := [.long r1, .long r2]) (rest := []) ⟨hx, hb, hml, hown, hts⟩ (sx_commonDivisor l dC dI (tyW cs) s.heap r1 r2) (va_cwS 2 hts (wU_S mw_4_217 mw_4_215 mw_4_216 mw_1_1) rfl rfl rfl (by decide +kernel) ⟨Nat.le_of_ble_eq_true rfl, Nat.le_of_ble_eq_true rfl⟩) ⟨sz_c, sz_m hK hz⟩ rfl rfl hl.1 rfl (lv_room (Nat.le_of_ble_eq_true rfl)) dX11_lower_14 ⟨Nat.zero_le _, Nat.zero_le _⟩) hS (fun r3 hw3 locs hS => ?_)
  obtain ⟨hfe3, hw3⟩ := hw3
  have hF := mi_let hF hfe3
  refine lv_lstore_n (lv' := [(1, .long r3), (0, .ref (ad 0))]) hx hb dX11_lower_17 rfl hl (by decide) rfl (fun ls hl => ?_)
  refine lv_lload_n hx hb dX11_lower_18 rfl (lv_at hl 0 rfl) ?_
  refine lv_lconst (v := 0) hx hb dX11_lower_19 (by decide) ?_
  refine W.lcmp hx hb dX11_lower_20 ?_
  refine lv_topi (fun t4 et4 => ?_)
  have hF := mi_let hF et4
  refine lv_if_ne (tgt := 28) hx hb dX11_lower_21 (by decide) (fun c_5 => ?_) (fun c_5 => ?_)
  · have hF := (if_neg c_5).symm.trans hF
    have c_5 : ¬ t4.toInt = 0 := il_ne c_5
    refine lv_aload_n hx hb dX11_lower_28 rfl (lv_at hl 1 rfl) ?_
    refine va_get (D := (dC, dI)) (ci := 11) (v := .ref (ad 4)) (C := RX11) (T := TX11) (N := 11) hx hb hts inG11 hown hK hP 0 (gX_0 cs ad mu) rfl 3 (by decide) (hts _ (List.mem_cons_of_mem _ mw_2_161)) (fun _ h9 => h9) rfl dX11_lower_29 ?_
    refine cr_l (va_runV (As := []) (rest := []) ⟨hx, hb, hml, hown, hts⟩ (sx_allPurses l dC dI cs ad mu ok s.heap hP) (cwV 0 hts (wU_V mw_4_214 mw_4_211 mw_4_212 mw_4_213 mw_1_2) rfl rfl rfl (by decide +kernel) ⟨Nat.le_of_ble_eq_true rfl, Nat.le_of_ble_eq_true rfl⟩) ⟨sz_c, va_recv hK hP (ci := 10) (q0 := 4) rfl (gX_4 cs ad mu), sz_m hK hz⟩ rfl rfl hl.1 rfl (lv_room (Nat.le_of_ble_eq_true rfl)) dX11_lower_32 ⟨Nat.zero_le _, Nat.zero_le _⟩) hS (fun r6 hw6 locs hS => ?_)
    obtain ⟨hfe6, hw6⟩ := hw6
    have hF := mi_let hF hfe6
    refine lv_lload_n hx hb dX11_lower_35 rfl (lv_at hl 0 rfl) ?_
    refine lv_ldiv hx hb dX11_lower_36 (fun h9 => absurd (show t4.toInt = 0 by rw [et4, h9]; decide) c_5) ?_
    refine lv_topl (fun l7 el7 => ?_)
    have hF := mi_let hF el7
    exact W.lret (v := l7) hx hb hr (fun t ht hW => ⟨⟨l7, mu, rfl, ⟨hF.trans hfz.symm, ok, trivial, (fun _ _ _ => rfl)⟩, by first | (subst ht; exact hP) | (rw [ht]; exact hP) | (show va_P (dC, dI) vwCl (wR 157 ad (EX cs ad) mu) t.heap; rw [ht]; exact hP)⟩, hS.F ht⟩) hS.2.2 dX11_lower_37
  · have hF := (if_pos c_5).symm.trans hF
    have c_5 : t4.toInt = 0 := il_eq c_5
    refine lv_lconst (v := 1) hx hb dX11_lower_24 (by decide) ?_
    refine lv_goto (tgt := 37) hx hb dX11_lower_25 (by decide) ?_
    exact W.lret (v := 1) hx hb hr (fun t ht hW => ⟨⟨1, mu, rfl, ⟨hF.trans hfz.symm, ok, trivial, (fun _ _ _ => rfl)⟩, by first | (subst ht; exact hP) | (rw [ht]; exact hP) | (show va_P (dC, dI) vwCl (wR 157 ad (EX cs ad) mu) t.heap; rw [ht]; exact hP)⟩, hS.F ht⟩) hS.2.2 dX11_lower_37
set_option maxHeartbeats 4000000 in
set_option maxRecDepth 100000 in
/-- qx_count -/
theorem qx_count (l : Launch) (dC : Nat → ClassId) (dI : Nat → Nat → Nat) (cs : Nat → ClassId) (ad : Nat → Nat) (mu : Nat → Nat → Int32) (ok : okR loX hiX mu) (H : Heap) (hP : va_P (dC, dI) vwCl (wR 157 ad (EX cs ad) mu) H) (hD0 : va_D (fun _ => True) (wR 157 ad (EX cs ad) mu)) (vw : Int32) : Met l yX11_count (wU yX11_count cX11_count 2 (some .int)) ({ frames := 2, cells := 0, slots := 0, locals := 42 }) (va_Pc [.ref (ad 0), .int vw] (sz_P (dC, dI) vwCl (tyW cs) H)) (va_Qi (fun (z : Int32) (xi : Nat → Nat → Int32) => okR loX hiX xi ∧ (True) ∧ (∀ k f : Nat, Nat.testBit 510 (gpX k f) = true → xi k f = mu k f)) (fun xi t => va_P (dC, dI) vwCl (wR 157 ad (EX cs ad) xi) t.heap) (va_A (wR 157 ad (EX cs ad) mu) H.size)) 0 0 (va_A (wR 157 ad (EX cs ad) mu) H.size) := by
  refine Met.ofW (cc := cX11_count) (maxL := 2) (ret := (some .int)) (by decide) rfl ?_
  intro p e s m args below meth c s₁ B hml hv
  obtain ⟨rfl, hh, hK, hz⟩ := hv
  have hx := B.exec
  have hb := B.bytes
  have hr := B.returns
  have hts := atoms_spec (ws := (wU yX11_count cX11_count 2 (some .int))) B.pre
  have hown : s.vm.findClass RX11 = some m.cls := findClass_of_methodNamed B.named
  have hlocks := B.notSynchronized
  subst hh
  have hD := hD0.self (sz := s.heap.size)
  have hA : ∀ q : Nat, s.heap.size ≤ q → (va_A (wR 157 ad (EX cs ad) mu) s.heap.size) q := fun q h => Or.inr h
  have hS : va_S (va_A (wR 157 ad (EX cs ad) mu) s.heap.size) s.heap s.heap [] := va_S.rf
  have hl := lv_entry ([.ref (ad 0), .int vw]) (n := 2) (Nat.le_of_ble_eq_true rfl)
  rw [lg_entry_eq]
  generalize (lg_sl ([.ref (ad 0), .int vw]) ++ List.replicate (2 - (lg_sl ([.ref (ad 0), .int vw])).length) Slot.unset).toArray = ls at hl ⊢
  have hl : lv_has ls 2 [(0, .ref (ad 0)), (1, .int vw)] := hl
  refine lv_iload_n hx hb dX11_count_0 rfl (lv_at hl 1 rfl) ?_
  by_cases w1 : vw.toInt < 0 ∨ 8 < vw.toInt
  · refine lv_tableOut (tgt := 127) hx hb dX11_count_1 w1 (by decide) ?_
    refine lv_iconst (v := (-1)) hx hb dX11_count_127 (by decide) ?_
    exact W.iret (v := (-1)) hx hb hr (fun t ht hW => ⟨⟨(-1), mu, rfl, ⟨ok, trivial, (fun _ _ _ => rfl)⟩, by first | (subst ht; exact hP) | (rw [ht]; exact hP) | (show va_P (dC, dI) vwCl (wR 157 ad (EX cs ad) mu) t.heap; rw [ht]; exact hP)⟩, hS.F ht⟩) hS.2.2 dX11_count_128
  by_cases w1_0 : vw.toInt = 0
  · refine lv_tableIn (off := 51) (tgt := 52) hx hb dX11_count_1 (by omega) (by omega) (by rw [w1_0]; rfl) (by decide) ?_
    refine lv_aload_n hx hb dX11_count_52 rfl (lv_at hl 0 rfl) ?_
    refine va_get (D := (dC, dI)) (ci := 11) (v := .ref (ad 4)) (C := RX11) (T := TX11) (N := 11) hx hb hts inG11 hown hK hP 0 (gX_0 cs ad mu) rfl 3 (by decide) (hts _ (List.mem_cons_of_mem _ mw_2_161)) (fun _ h9 => h9) rfl dX11_count_53 ?_
    refine va_get (D := (dC, dI)) (ci := 10) (v := .int (mu 4 6)) (C := RX10) (T := TX10) (N := 8) hx hb hts inG10 hown hK hP 4 (gX_4 cs ad mu) rfl 6 (by decide) (hts _ (List.mem_cons_of_mem _ mw_1_164)) (fun _ h9 => h9) rfl dX11_count_56 ?_
    refine lv_topi (fun y2 ey2 => ?_)
    have by2 : y2.toInt = (mu 4 6).toInt := congrArg Int32.toInt ey2
    have gy2 : 0 ≤ y2.toInt ∧ y2.toInt ≤ 7 := by rw [ey2]; exact rX_4_6 ok
    exact W.iret (v := y2) hx hb hr (fun t ht hW => ⟨⟨y2, mu, rfl, ⟨ok, trivial, (fun _ _ _ => rfl)⟩, by first | (subst ht; exact hP) | (rw [ht]; exact hP) | (show va_P (dC, dI) vwCl (wR 157 ad (EX cs ad) mu) t.heap; rw [ht]; exact hP)⟩, hS.F ht⟩) hS.2.2 dX11_count_59
  by_cases w1_1 : vw.toInt = 1
  · refine lv_tableIn (off := 59) (tgt := 60) hx hb dX11_count_1 (by omega) (by omega) (by rw [w1_1]; rfl) (by decide) ?_
    refine lv_aload_n hx hb dX11_count_60 rfl (lv_at hl 0 rfl) ?_
    refine va_get (D := (dC, dI)) (ci := 11) (v := .ref (ad 4)) (C := RX11) (T := TX11) (N := 11) hx hb hts inG11 hown hK hP 0 (gX_0 cs ad mu) rfl 3 (by decide) (hts _ (List.mem_cons_of_mem _ mw_2_161)) (fun _ h9 => h9) rfl dX11_count_61 ?_
    refine va_get (D := (dC, dI)) (ci := 10) (v := .int (mu 4 7)) (C := RX10) (T := TX10) (N := 8) hx hb hts inG10 hown hK hP 4 (gX_4 cs ad mu) rfl 7 (by decide) (hts _ (List.mem_cons_of_mem _ mw_1_167)) (fun _ h9 => h9) rfl dX11_count_64 ?_
    refine lv_topi (fun y3 ey3 => ?_)
    have by3 : y3.toInt = (mu 4 7).toInt := congrArg Int32.toInt ey3
    have gy3 : 0 ≤ y3.toInt ∧ y3.toInt ≤ 12 := by rw [ey3]; exact rX_4_7 ok
    exact W.iret (v := y3) hx hb hr (fun t ht hW => ⟨⟨y3, mu, rfl, ⟨ok, trivial, (fun _ _ _ => rfl)⟩, by first | (subst ht; exact hP) | (rw [ht]; exact hP) | (show va_P (dC, dI) vwCl (wR 157 ad (EX cs ad) mu) t.heap; rw [ht]; exact hP)⟩, hS.F ht⟩) hS.2.2 dX11_count_67
  by_cases w1_2 : vw.toInt = 2
  · refine lv_tableIn (off := 67) (tgt := 68) hx hb dX11_count_1 (by omega) (by omega) (by rw [w1_2]; rfl) (by decide) ?_
    refine lv_aload_n hx hb dX11_count_68 rfl (lv_at hl 0 rfl) ?_
    refine va_get (D := (dC, dI)) (ci := 11) (v := .ref (ad 4)) (C := RX11) (T := TX11) (N := 11) hx hb hts inG11 hown hK hP 0 (gX_0 cs ad mu) rfl 3 (by decide) (hts _ (List.mem_cons_of_mem _ mw_2_161)) (fun _ h9 => h9) rfl dX11_count_69 ?_
    refine va_get (D := (dC, dI)) (ci := 10) (v := .ref (ad 5)) (C := RX10) (T := TX10) (N := 8) hx hb hts inG10 hown hK hP 4 (gX_4 cs ad mu) rfl 3 (by decide) (hts _ (List.mem_cons_of_mem _ mw_1_157)) (fun _ h9 => h9) rfl dX11_count_72 ?_
    refine va_get (D := (dC, dI)) (ci := 8) (v := .int (mu 5 3)) (C := RX8) (T := TX8) (N := 6) hx hb hts inG8 hown hK hP 5 (gX_5 cs ad mu) rfl 3 (by decide) (hts _ (List.mem_cons_of_mem _ mw_1_124)) (fun _ h9 => h9) rfl dX11_count_75 ?_
    refine lv_topi (fun y4 ey4 => ?_)
    have by4 : y4.toInt = (mu 5 3).toInt := congrArg Int32.toInt ey4
    exact W.iret (v := y4) hx hb hr (fun t ht hW => ⟨⟨y4, mu, rfl, ⟨ok, trivial, (fun _ _ _ => rfl)⟩, by first | (subst ht; exact hP) | (rw [ht]; exact hP) | (show va_P (dC, dI) vwCl (wR 157 ad (EX cs ad) mu) t.heap; rw [ht]; exact hP)⟩, hS.F ht⟩) hS.2.2 dX11_count_78
  by_cases w1_3 : vw.toInt = 3
  · refine lv_tableIn (off := 78) (tgt := 79) hx hb dX11_count_1 (by omega) (by omega) (by rw [w1_3]; rfl) (by decide) ?_
    refine lv_aload_n hx hb dX11_count_79 rfl (lv_at hl 0 rfl) ?_
    refine va_get (D := (dC, dI)) (ci := 11) (v := .ref (ad 4)) (C := RX11) (T := TX11) (N := 11) hx hb hts inG11 hown hK hP 0 (gX_0 cs ad mu) rfl 3 (by decide) (hts _ (List.mem_cons_of_mem _ mw_2_161)) (fun _ h9 => h9) rfl dX11_count_80 ?_
    refine va_get (D := (dC, dI)) (ci := 10) (v := .ref (ad 5)) (C := RX10) (T := TX10) (N := 8) hx hb hts inG10 hown hK hP 4 (gX_4 cs ad mu) rfl 3 (by decide) (hts _ (List.mem_cons_of_mem _ mw_1_157)) (fun _ h9 => h9) rfl dX11_count_83 ?_
    refine va_get (D := (dC, dI)) (ci := 8) (v := .int (mu 5 4)) (C := RX8) (T := TX8) (N := 6) hx hb hts inG8 hown hK hP 5 (gX_5 cs ad mu) rfl 4 (by decide) (hts _ (List.mem_cons_of_mem _ mw_1_128)) (fun _ h9 => h9) rfl dX11_count_86 ?_
    refine lv_topi (fun y5 ey5 => ?_)
    have by5 : y5.toInt = (mu 5 4).toInt := congrArg Int32.toInt ey5
    have gy5 : 0 ≤ y5.toInt ∧ y5.toInt ≤ 4 := by rw [ey5]; exact rX_5_4 ok
    exact W.iret (v := y5) hx hb hr (fun t ht hW => ⟨⟨y5, mu, rfl, ⟨ok, trivial, (fun _ _ _ => rfl)⟩, by first | (subst ht; exact hP) | (rw [ht]; exact hP) | (show va_P (dC, dI) vwCl (wR 157 ad (EX cs ad) mu) t.heap; rw [ht]; exact hP)⟩, hS.F ht⟩) hS.2.2 dX11_count_89
  by_cases w1_4 : vw.toInt = 4
  · refine lv_tableIn (off := 89) (tgt := 90) hx hb dX11_count_1 (by omega) (by omega) (by rw [w1_4]; rfl) (by decide) ?_
    refine lv_aload_n hx hb dX11_count_90 rfl (lv_at hl 0 rfl) ?_
    refine va_get (D := (dC, dI)) (ci := 11) (v := .ref (ad 6)) (C := RX11) (T := TX11) (N := 11) hx hb hts inG11 hown hK hP 0 (gX_0 cs ad mu) rfl 5 (by decide) (hts _ (List.mem_cons_of_mem _ mw_2_163)) (fun _ h9 => h9) rfl dX11_count_91 ?_
    refine va_get (D := (dC, dI)) (ci := 2) (v := .int (mu 6 1)) (C := RX2) (T := TX2) (N := 2) hx hb hts inG2 hown hK hP 6 (gX_6 cs ad mu) rfl 1 (by decide) (hts _ (List.mem_cons_of_mem _ mw_2_8)) (fun _ h9 => h9) rfl dX11_count_94 ?_
    refine lv_topi (fun y6 ey6 => ?_)
    have by6 : y6.toInt = (mu 6 1).toInt := congrArg Int32.toInt ey6
    have gy6 : 0 ≤ y6.toInt ∧ y6.toInt ≤ 40 := by rw [ey6]; exact rX_6_1 ok
    exact W.iret (v := y6) hx hb hr (fun t ht hW => ⟨⟨y6, mu, rfl, ⟨ok, trivial, (fun _ _ _ => rfl)⟩, by first | (subst ht; exact hP) | (rw [ht]; exact hP) | (show va_P (dC, dI) vwCl (wR 157 ad (EX cs ad) mu) t.heap; rw [ht]; exact hP)⟩, hS.F ht⟩) hS.2.2 dX11_count_97
  by_cases w1_5 : vw.toInt = 5
  · refine lv_tableIn (off := 97) (tgt := 98) hx hb dX11_count_1 (by omega) (by omega) (by rw [w1_5]; rfl) (by decide) ?_
    refine lv_aload_n hx hb dX11_count_98 rfl (lv_at hl 0 rfl) ?_
    refine va_get (D := (dC, dI)) (ci := 11) (v := .ref (ad 4)) (C := RX11) (T := TX11) (N := 11) hx hb hts inG11 hown hK hP 0 (gX_0 cs ad mu) rfl 3 (by decide) (hts _ (List.mem_cons_of_mem _ mw_2_161)) (fun _ h9 => h9) rfl dX11_count_99 ?_
    refine va_get (D := (dC, dI)) (ci := 10) (v := .ref (ad 5)) (C := RX10) (T := TX10) (N := 8) hx hb hts inG10 hown hK hP 4 (gX_4 cs ad mu) rfl 3 (by decide) (hts _ (List.mem_cons_of_mem _ mw_1_157)) (fun _ h9 => h9) rfl dX11_count_102 ?_
    refine va_get (D := (dC, dI)) (ci := 8) (v := .int (mu 5 2)) (C := RX8) (T := TX8) (N := 6) hx hb hts inG8 hown hK hP 5 (gX_5 cs ad mu) rfl 2 (by decide) (hts _ (List.mem_cons_of_mem _ mw_1_118)) (fun _ h9 => h9) rfl dX11_count_105 ?_
    refine lv_topi (fun y7 ey7 => ?_)
    have by7 : y7.toInt = (mu 5 2).toInt := congrArg Int32.toInt ey7
    refine cr_i (va_runS (As := [.int y7]) (rest := []) ⟨hx, hb, hml, hown, hts⟩ (sx_bitCount l dC dI (tyW cs) s.heap y7) (va_cwS 1 hts (wU_S mw_3_90 mw_4_98 mw_3_89 mw_1_16) rfl rfl rfl (by decide +kernel) ⟨Nat.le_of_ble_eq_true rfl, Nat.le_of_ble_eq_true rfl⟩) ⟨sz_c, sz_m hK hz⟩ rfl rfl hl.1 rfl (lv_room (Nat.le_of_ble_eq_true rfl)) dX11_count_108 ⟨Nat.zero_le _, Nat.zero_le _⟩) hS (fun r8 hw8 locs hS => ?_)
    obtain ⟨hfe8, hw8⟩ := hw8
    exact W.iret (v := r8) hx hb hr (fun t ht hW => ⟨⟨r8, mu, rfl, ⟨ok, trivial, (fun _ _ _ => rfl)⟩, by first | (subst ht; exact hP) | (rw [ht]; exact hP) | (show va_P (dC, dI) vwCl (wR 157 ad (EX cs ad) mu) t.heap; rw [ht]; exact hP)⟩, hS.F ht⟩) hS.2.2 dX11_count_111
  by_cases w1_6 : vw.toInt = 6
  · refine lv_tableIn (off := 111) (tgt := 112) hx hb dX11_count_1 (by omega) (by omega) (by rw [w1_6]; rfl) (by decide) ?_
    refine lv_aload_n hx hb dX11_count_112 rfl (lv_at hl 0 rfl) ?_
    refine cr_i (va_runV (As := []) (rest := []) ⟨hx, hb, hml, hown, hts⟩ (sx_rowsThere l dC dI cs ad mu ok s.heap hP) (cwV 0 hts (wU_V mw_4_229 mw_4_226 mw_4_228 mw_0_23 mw_1_1) rfl rfl rfl (by decide +kernel) ⟨Nat.le_of_ble_eq_true rfl, Nat.le_of_ble_eq_true rfl⟩) ⟨sz_c, va_recv hK hP (ci := 11) (q0 := 0) rfl (gX_0 cs ad mu), sz_m hK hz⟩ rfl rfl hl.1 rfl (lv_room (Nat.le_of_ble_eq_true rfl)) dX11_count_113 ⟨Nat.zero_le _, Nat.zero_le _⟩) hS (fun r9 hw9 locs hS => ?_)
    exact W.iret (v := r9) hx hb hr (fun t ht hW => ⟨⟨r9, mu, rfl, ⟨ok, trivial, (fun _ _ _ => rfl)⟩, by first | (subst ht; exact hP) | (rw [ht]; exact hP) | (show va_P (dC, dI) vwCl (wR 157 ad (EX cs ad) mu) t.heap; rw [ht]; exact hP)⟩, hS.F ht⟩) hS.2.2 dX11_count_116
  by_cases w1_7 : vw.toInt = 7
  · refine lv_tableIn (off := 116) (tgt := 117) hx hb dX11_count_1 (by omega) (by omega) (by rw [w1_7]; rfl) (by decide) ?_
    refine lv_aload_n hx hb dX11_count_117 rfl (lv_at hl 0 rfl) ?_
    refine cr_i (va_runV (As := []) (rest := []) ⟨hx, hb, hml, hown, hts⟩ (sx_textsThere l dC dI cs ad mu ok s.heap hP) (cwV 0 hts (wU_V mw_4_233 mw_4_230 mw_4_232 mw_0_24 mw_1_1) rfl rfl rfl (by decide +kernel) ⟨Nat.le_of_ble_eq_true rfl, Nat.le_of_ble_eq_true rfl⟩) ⟨sz_c, va_recv hK hP (ci := 11) (q0 := 0) rfl (gX_0 cs ad mu), sz_m hK hz⟩ rfl rfl hl.1 rfl (lv_room (Nat.le_of_ble_eq_true rfl)) dX11_count_118 ⟨Nat.zero_le _, Nat.zero_le _⟩) hS (fun r10 hw10 locs hS => ?_)
    exact W.iret (v := r10) hx hb hr (fun t ht hW => ⟨⟨r10, mu, rfl, ⟨ok, trivial, (fun _ _ _ => rfl)⟩, by first | (subst ht; exact hP) | (rw [ht]; exact hP) | (show va_P (dC, dI) vwCl (wR 157 ad (EX cs ad) mu) t.heap; rw [ht]; exact hP)⟩, hS.F ht⟩) hS.2.2 dX11_count_121
  have w1_8 : vw.toInt = 8 := by omega
  refine lv_tableIn (off := 121) (tgt := 122) hx hb dX11_count_1 (by omega) (by omega) (by rw [w1_8]; rfl) (by decide) ?_
  refine lv_aload_n hx hb dX11_count_122 rfl (lv_at hl 0 rfl) ?_
  refine cr_i (va_runV (As := []) (rest := []) ⟨hx, hb, hml, hown, hts⟩ (sx_townsKept l dC dI cs ad mu ok s.heap hP) (cwV 0 hts (wU_V mw_4_237 mw_4_234 mw_4_236 mw_0_25 mw_1_1) rfl rfl rfl (by decide +kernel) ⟨Nat.le_of_ble_eq_true rfl, Nat.le_of_ble_eq_true rfl⟩) ⟨sz_c, va_recv hK hP (ci := 11) (q0 := 0) rfl (gX_0 cs ad mu), sz_m hK hz⟩ rfl rfl hl.1 rfl (lv_room (Nat.le_of_ble_eq_true rfl)) dX11_count_123 ⟨Nat.zero_le _, Nat.zero_le _⟩) hS (fun r11 hw11 locs hS => ?_)
  exact W.iret (v := r11) hx hb hr (fun t ht hW => ⟨⟨r11, mu, rfl, ⟨ok, trivial, (fun _ _ _ => rfl)⟩, by first | (subst ht; exact hP) | (rw [ht]; exact hP) | (show va_P (dC, dI) vwCl (wR 157 ad (EX cs ad) mu) t.heap; rw [ht]; exact hP)⟩, hS.F ht⟩) hS.2.2 dX11_count_126
set_option maxHeartbeats 4000000 in
set_option maxRecDepth 100000 in
/-- qx_digest -/
theorem qx_digest (l : Launch) (dC : Nat → ClassId) (dI : Nat → Nat → Nat) (cs : Nat → ClassId) (ad : Nat → Nat) (mu : Nat → Nat → Int32) (ok : okR loX hiX mu) (H : Heap) (hP : va_P (dC, dI) vwCl (wR 157 ad (EX cs ad) mu) H) (hD0 : va_D (fun _ => True) (wR 157 ad (EX cs ad) mu)) : Met l yX11_digest (wU yX11_digest cX11_digest 4 (some .long)) ({ frames := 5, cells := 0, slots := 0, locals := 125 }) (va_Pc [.ref (ad 0)] (sz_P (dC, dI) vwCl (tyW cs) H)) (va_Ql (fun (z : Int64) (xi : Nat → Nat → Int32) => okR loX hiX xi ∧ (True) ∧ (∀ k f : Nat, Nat.testBit 510 (gpX k f) = true → xi k f = mu k f)) (fun xi t => va_P (dC, dI) vwCl (wR 157 ad (EX cs ad) xi) t.heap) (va_A (wR 157 ad (EX cs ad) mu) H.size)) 0 0 (va_A (wR 157 ad (EX cs ad) mu) H.size) := by
  refine Met.ofW (cc := cX11_digest) (maxL := 4) (ret := (some .long)) (by decide) rfl ?_
  intro p e s m args below meth c s₁ B hml hv
  obtain ⟨rfl, hh, hK, hz⟩ := hv
  have hx := B.exec
  have hb := B.bytes
  have hr := B.returns
  have hts := atoms_spec (ws := (wU yX11_digest cX11_digest 4 (some .long))) B.pre
  have hown : s.vm.findClass RX11 = some m.cls := findClass_of_methodNamed B.named
  have hlocks := B.notSynchronized
  subst hh
  have hD := hD0.self (sz := s.heap.size)
  have hA : ∀ q : Nat, s.heap.size ≤ q → (va_A (wR 157 ad (EX cs ad) mu) s.heap.size) q := fun q h => Or.inr h
  have hS : va_S (va_A (wR 157 ad (EX cs ad) mu) s.heap.size) s.heap s.heap [] := va_S.rf
  have hl := lv_entry ([.ref (ad 0)]) (n := 4) (Nat.le_of_ble_eq_true rfl)
  rw [lg_entry_eq]
  generalize (lg_sl ([.ref (ad 0)]) ++ List.replicate (4 - (lg_sl ([.ref (ad 0)])).length) Slot.unset).toArray = ls at hl ⊢
  have hl : lv_has ls 4 [(0, .ref (ad 0))] := hl
  refine lv_ldc2 (v := 17) hx hb hown (hts _ (List.mem_cons_of_mem _ mw_5_10)) dX11_digest_0 ?_
  refine lv_lstore_n (lv' := [(1, .long 17), (0, .ref (ad 0))]) hx hb dX11_digest_3 rfl hl (by decide) rfl (fun ls hl => ?_)
  refine lv_iconst (v := 0) hx hb dX11_digest_4 (by decide) ?_
  refine lv_istore_n (lv' := [(3, .int 0), (1, .long 17), (0, .ref (ad 0))]) hx hb dX11_digest_5 rfl hl (by decide) rfl (fun ls hl => ?_)
  have loop6 : ∀ (n6 : Nat) (v1_6 : Int64) (v3_6 : Int32) (nu6_ : Nat → Nat → Int32) (H : Heap) (locs : List Loc) (ls : Array Slot), (9 + 1 - v3_6.toInt).toNat < n6 → (0 ≤ v3_6.toInt ∧ v3_6.toInt ≤ 9) → okR loX hiX nu6_ → va_P (dC, dI) vwCl (wR 157 ad (EX cs ad) nu6_) H → (∀ k f : Nat, Nat.testBit 510 (gpX k f) = true → nu6_ k f = mu k f) → va_S (va_A (wR 157 ad (EX cs ad) mu) s.heap.size) s.heap H locs → lv_has ls 4 [(3, .int v3_6), (1, .long v1_6), (0, .ref (ad 0))] → W p l e (headSpec (wU yX11_digest cX11_digest 4 (some .long)) ({ frames := 5, cells := 0, slots := 0, locals := 125 })).room s m ([.ref (ad 0)] : List Value).toArray below meth c H locs 0 0 (MQ below (va_Ql (fun (z : Int64) (xi : Nat → Nat → Int32) => okR loX hiX xi ∧ (True) ∧ (∀ k f : Nat, Nat.testBit 510 (gpX k f) = true → xi k f = mu k f)) (fun xi t => va_P (dC, dI) vwCl (wR 157 ad (EX cs ad) xi) t.heap) (va_A (wR 157 ad (EX cs ad) mu) s.heap.size)) ([.ref (ad 0)] : List Value).toArray s 0 0 (va_A (wR 157 ad (EX cs ad) mu) s.heap.size)) (F0 m 6 ls []) := by
    intro n6
    induction n6 with
    | zero => intro v1_6 v3_6 nu6_ H locs ls hm; exact absurd hm (Nat.not_lt_zero _)
    | succ n6 ih6 =>
      intro v1_6 v3_6 nu6_ H locs ls hm_6 h_v3_6 ok hP kq6_0 hS hl
      refine lv_iload_n hx hb dX11_digest_6 rfl (lv_at hl 0 rfl) ?_
      refine lv_bipush (v := 9) hx hb dX11_digest_7 (by decide) ?_
      refine lv_icmp_ge (tgt := 31) hx hb dX11_digest_9 (by decide) (fun c_1 => ?_) (fun c_1 => ?_)
      · have c_1 : 9 ≤ v3_6.toInt := il_le c_1
        refine lv_aload_n hx hb dX11_digest_31 rfl (lv_at hl 2 rfl) ?_
        refine va_get (D := (dC, dI)) (ci := 11) (v := .ref (ad 4)) (C := RX11) (T := TX11) (N := 11) hx hb hts inG11 hown hK hP 0 (gX_0 cs ad nu6_) rfl 3 (by decide) (hts _ (List.mem_cons_of_mem _ mw_2_161)) (fun _ h9 => h9) rfl dX11_digest_32 ?_
        refine lv_lload_n hx hb dX11_digest_35 rfl (lv_at hl 1 rfl) ?_
        refine cr_l (va_runV (As := [.long v1_6]) (rest := []) ⟨hx, hb, hml, hown, hts⟩ (sx_Town_digestOn l dC dI cs ad nu6_ ok H hP v1_6) (cwV 1 hts (wU_V mw_5_16 mw_5_13 mw_5_14 mw_5_15 mw_1_2) rfl rfl rfl (by decide +kernel) ⟨Nat.le_of_ble_eq_true rfl, Nat.le_of_ble_eq_true rfl⟩) ⟨sz_c, va_recv hK hP (ci := 10) (q0 := 4) rfl (gX_4 cs ad nu6_), sz_m hK hz⟩ rfl rfl hl.1 rfl (lv_room (Nat.le_of_ble_eq_true rfl)) dX11_digest_36 ⟨Nat.zero_le _, Nat.zero_le _⟩) hS (fun r2 hw2 locs hS => ?_)
        refine lv_lstore_n (lv' := [(1, .long r2), (3, .int v3_6), (0, .ref (ad 0))]) hx hb dX11_digest_39 rfl hl (by decide) rfl (fun ls hl => ?_)
        refine lv_iconst (v := 0) hx hb dX11_digest_40 (by decide) ?_
        refine lv_istore_n (lv' := [(3, .int 0), (1, .long r2), (0, .ref (ad 0))]) hx hb dX11_digest_41 rfl hl (by decide) rfl (fun ls hl => ?_)
        have loop42 : ∀ (n42 : Nat) (v1_42 : Int64) (v3_42 : Int32) (nu42_ : Nat → Nat → Int32) (H : Heap) (locs : List Loc) (ls : Array Slot), (3 + 1 - v3_42.toInt).toNat < n42 → (0 ≤ v3_42.toInt ∧ v3_42.toInt ≤ 3) → okR loX hiX nu42_ → va_P (dC, dI) vwCl (wR 157 ad (EX cs ad) nu42_) H → (∀ k f : Nat, Nat.testBit 510 (gpX k f) = true → nu42_ k f = mu k f) → va_S (va_A (wR 157 ad (EX cs ad) mu) s.heap.size) s.heap H locs → lv_has ls 4 [(3, .int v3_42), (1, .long v1_42), (0, .ref (ad 0))] → W p l e (headSpec (wU yX11_digest cX11_digest 4 (some .long)) ({ frames := 5, cells := 0, slots := 0, locals := 125 })).room s m ([.ref (ad 0)] : List Value).toArray below meth c H locs 0 0 (MQ below (va_Ql (fun (z : Int64) (xi : Nat → Nat → Int32) => okR loX hiX xi ∧ (True) ∧ (∀ k f : Nat, Nat.testBit 510 (gpX k f) = true → xi k f = mu k f)) (fun xi t => va_P (dC, dI) vwCl (wR 157 ad (EX cs ad) xi) t.heap) (va_A (wR 157 ad (EX cs ad) mu) s.heap.size)) ([.ref (ad 0)] : List Value).toArray s 0 0 (va_A (wR 157 ad (EX cs ad) mu) s.heap.size)) (F0 m 42 ls []) := by
          intro n42
          induction n42 with
          | zero => intro v1_42 v3_42 nu42_ H locs ls hm; exact absurd hm (Nat.not_lt_zero _)
          | succ n42 ih42 =>
            intro v1_42 v3_42 nu42_ H locs ls hm_42 h_v3_42 ok hP kq42_0 hS hl
            refine lv_iload_n hx hb dX11_digest_42 rfl (lv_at hl 0 rfl) ?_
            refine lv_iconst (v := 3) hx hb dX11_digest_43 (by decide) ?_
            refine lv_icmp_ge (tgt := 86) hx hb dX11_digest_44 (by decide) (fun c_3 => ?_) (fun c_3 => ?_)
            · have c_3 : 3 ≤ v3_42.toInt := il_le c_3
              refine lv_iconst (v := 0) hx hb dX11_digest_86 (by decide) ?_
              refine lv_istore_n (lv' := [(3, .int 0), (1, .long v1_42), (0, .ref (ad 0))]) hx hb dX11_digest_87 rfl hl (by decide) rfl (fun ls hl => ?_)
              have loop88 : ∀ (n88 : Nat) (v1_88 : Int64) (v3_88 : Int32) (nu88_ : Nat → Nat → Int32) (H : Heap) (locs : List Loc) (ls : Array Slot), (6 + 1 - v3_88.toInt).toNat < n88 → (0 ≤ v3_88.toInt ∧ v3_88.toInt ≤ 6) → okR loX hiX nu88_ → va_P (dC, dI) vwCl (wR 157 ad (EX cs ad) nu88_) H → (∀ k f : Nat, Nat.testBit 510 (gpX k f) = true → nu88_ k f = mu k f) → va_S (va_A (wR 157 ad (EX cs ad) mu) s.heap.size) s.heap H locs → lv_has ls 4 [(3, .int v3_88), (1, .long v1_88), (0, .ref (ad 0))] → W p l e (headSpec (wU yX11_digest cX11_digest 4 (some .long)) ({ frames := 5, cells := 0, slots := 0, locals := 125 })).room s m ([.ref (ad 0)] : List Value).toArray below meth c H locs 0 0 (MQ below (va_Ql (fun (z : Int64) (xi : Nat → Nat → Int32) => okR loX hiX xi ∧ (True) ∧ (∀ k f : Nat, Nat.testBit 510 (gpX k f) = true → xi k f = mu k f)) (fun xi t => va_P (dC, dI) vwCl (wR 157 ad (EX cs ad) xi) t.heap) (va_A (wR 157 ad (EX cs ad) mu) s.heap.size)) ([.ref (ad 0)] : List Value).toArray s 0 0 (va_A (wR 157 ad (EX cs ad) mu) s.heap.size)) (F0 m 88 ls []) := by
                intro n88
                induction n88 with
                | zero => intro v1_88 v3_88 nu88_ H locs ls hm; exact absurd hm (Nat.not_lt_zero _)
                | succ n88 ih88 =>
                  intro v1_88 v3_88 nu88_ H locs ls hm_88 h_v3_88 ok hP kq88_0 hS hl
                  refine lv_iload_n hx hb dX11_digest_88 rfl (lv_at hl 0 rfl) ?_
                  refine lv_bipush (v := 6) hx hb dX11_digest_89 (by decide) ?_
                  refine lv_icmp_ge (tgt := 111) hx hb dX11_digest_91 (by decide) (fun c_4 => ?_) (fun c_4 => ?_)
                  · have c_4 : 6 ≤ v3_88.toInt := il_le c_4
                    refine lv_iconst (v := 0) hx hb dX11_digest_111 (by decide) ?_
                    refine lv_istore_n (lv' := [(3, .int 0), (1, .long v1_88), (0, .ref (ad 0))]) hx hb dX11_digest_112 rfl hl (by decide) rfl (fun ls hl => ?_)
                    have loop113 : ∀ (n113 : Nat) (v1_113 : Int64) (v3_113 : Int32) (nu113_ : Nat → Nat → Int32) (H : Heap) (locs : List Loc) (ls : Array Slot), (4 + 1 - v3_113.toInt).toNat < n113 → (0 ≤ v3_113.toInt ∧ v3_113.toInt ≤ 4) → okR loX hiX nu113_ → va_P (dC, dI) vwCl (wR 157 ad (EX cs ad) nu113_) H → (∀ k f : Nat, Nat.testBit 510 (gpX k f) = true → nu113_ k f = mu k f) → va_S (va_A (wR 157 ad (EX cs ad) mu) s.heap.size) s.heap H locs → lv_has ls 4 [(3, .int v3_113), (1, .long v1_113), (0, .ref (ad 0))] → W p l e (headSpec (wU yX11_digest cX11_digest 4 (some .long)) ({ frames := 5, cells := 0, slots := 0, locals := 125 })).room s m ([.ref (ad 0)] : List Value).toArray below meth c H locs 0 0 (MQ below (va_Ql (fun (z : Int64) (xi : Nat → Nat → Int32) => okR loX hiX xi ∧ (True) ∧ (∀ k f : Nat, Nat.testBit 510 (gpX k f) = true → xi k f = mu k f)) (fun xi t => va_P (dC, dI) vwCl (wR 157 ad (EX cs ad) xi) t.heap) (va_A (wR 157 ad (EX cs ad) mu) s.heap.size)) ([.ref (ad 0)] : List Value).toArray s 0 0 (va_A (wR 157 ad (EX cs ad) mu) s.heap.size)) (F0 m 113 ls []) := by
                      intro n113
                      induction n113 with
                      | zero => intro v1_113 v3_113 nu113_ H locs ls hm; exact absurd hm (Nat.not_lt_zero _)
                      | succ n113 ih113 =>
                        intro v1_113 v3_113 nu113_ H locs ls hm_113 h_v3_113 ok hP kq113_0 hS hl
                        refine lv_iload_n hx hb dX11_digest_113 rfl (lv_at hl 0 rfl) ?_
                        refine lv_iconst (v := 4) hx hb dX11_digest_114 (by decide) ?_
                        refine lv_icmp_ge (tgt := 135) hx hb dX11_digest_115 (by decide) (fun c_5 => ?_) (fun c_5 => ?_)
                        · have c_5 : 4 ≤ v3_113.toInt := il_le c_5
                          refine lv_lload_n hx hb dX11_digest_135 rfl (lv_at hl 1 rfl) ?_
                          exact W.lret (v := v1_113) hx hb hr (fun t ht hW => ⟨⟨v1_113, nu113_, rfl, ⟨ok, trivial, kq113_0⟩, by first | (subst ht; exact hP) | (rw [ht]; exact hP) | (show va_P (dC, dI) vwCl (wR 157 ad (EX cs ad) nu113_) t.heap; rw [ht]; exact hP)⟩, hS.F ht⟩) hS.2.2 dX11_digest_136
                        · have c_5 : v3_113.toInt < 4 := il_nle c_5
                          refine lv_aload_n hx hb dX11_digest_118 rfl (lv_at hl 2 rfl) ?_
                          refine va_get (D := (dC, dI)) (ci := 11) (v := .ref (ad 2)) (C := RX11) (T := TX11) (N := 11) hx hb hts inG11 hown hK hP 0 (gX_0 cs ad nu113_) rfl 1 (by decide) (hts _ (List.mem_cons_of_mem _ mw_2_159)) (fun _ h9 => h9) rfl dX11_digest_119 ?_
                          refine lv_iload_n hx hb dX11_digest_122 rfl (lv_at hl 0 rfl) ?_
                          have hx6 : 0 ≤ v3_113.toInt ∧ v3_113.toInt < ((4 : Nat) : Int) := ⟨by omega, by omega⟩
                          refine va_aldq hx hb hK hP 2 3 (gX_2 cs ad nu113_) rfl (show vp_in v3_113 4 from vi_of hx6.1 hx6.2) dX11_digest_123 ?_
                          have hk6 : 14 ≤ (14 + v3_113.toNatClampNeg) ∧ (14 + v3_113.toNatClampNeg) < 18 := ix_of hx6
                          refine lq_v (.ref (ad (14 + v3_113.toNatClampNeg))) rfl ?_
                          refine lv_lload_n hx hb dX11_digest_124 rfl (lv_at hl 1 rfl) ?_
                          refine cr_l (va_runV (As := [.long v1_113]) (rest := []) ⟨hx, hb, hml, hown, hts⟩ (sx_Text_digestOn l dC dI cs ad nu113_ ok H hP (14 + v3_113.toNatClampNeg) hk6.1 hk6.2 v1_113) (cwV 1 hts (wU_V mw_5_33 mw_5_30 mw_5_31 mw_5_32 mw_1_12) rfl rfl rfl (by decide +kernel) ⟨Nat.le_of_ble_eq_true rfl, Nat.le_of_ble_eq_true rfl⟩) ⟨sz_c, va_recv hK hP (ci := 9) (q0 := (14 + v3_113.toNatClampNeg)) rfl (gX_text cs ad nu113_ (14 + v3_113.toNatClampNeg) hk6.1 hk6.2), sz_m hK hz⟩ rfl rfl hl.1 rfl (lv_room (Nat.le_of_ble_eq_true rfl)) dX11_digest_125 ⟨Nat.zero_le _, Nat.zero_le _⟩) hS (fun r7 hw7 locs hS => ?_)
                          refine lv_lstore_n (lv' := [(1, .long r7), (3, .int v3_113), (0, .ref (ad 0))]) hx hb dX11_digest_128 rfl hl (by decide) rfl (fun ls hl => ?_)
                          refine lv_iinc (v := (v3_113 + 1)) (lv' := [(3, .int (v3_113 + 1)), (1, .long r7), (0, .ref (ad 0))]) hx hb dX11_digest_129 hl (k := 1) rfl rfl (by decide) rfl (fun ls hl => ?_)
                          refine loc_gen (P := fun w9 => lv_has ls 4 [(3, .int w9), (1, .long r7), (0, .ref (ad 0))]) (v3_113 + 1) hl (fun w8 hw8 hl => ?_)
                          have hl : lv_has ls 4 [(3, .int w8), (1, .long r7), (0, .ref (ad 0))] := hl
                          have aw8 : w8.toInt = v3_113.toInt + 1 := by rw [← hw8]; exact va1 (by omega)
                          refine lv_goto (tgt := 113) hx hb dX11_digest_132 (by decide) ?_
                          exact ih113 (r7) (w8) nu113_ _ _ _ (by first | exact ms_lt hm_113 (by omega) (by omega) | omega) (by omega)  ok hP  kq113_0 hS (lv_sub hl [0, 1, 2] rfl)
                    exact loop113 ((4 + 1 - (0 : Int32).toInt).toNat + 1) (v1_88) (0) nu88_ _ _ _ (Nat.lt_succ_self _) (by have h80 : (0 : Int32).toInt = 0 := rfl; exact ⟨by omega, by omega⟩)  ok hP  kq88_0 hS hl
                  · have c_4 : v3_88.toInt < 6 := il_nle c_4
                    refine lv_aload_n hx hb dX11_digest_94 rfl (lv_at hl 2 rfl) ?_
                    refine va_get (D := (dC, dI)) (ci := 11) (v := .ref (ad 1)) (C := RX11) (T := TX11) (N := 11) hx hb hts inG11 hown hK hP 0 (gX_0 cs ad nu88_) rfl 0 (by decide) (hts _ (List.mem_cons_of_mem _ mw_2_158)) (fun _ h9 => h9) rfl dX11_digest_95 ?_
                    refine lv_iload_n hx hb dX11_digest_98 rfl (lv_at hl 0 rfl) ?_
                    have hx9 : 0 ≤ v3_88.toInt ∧ v3_88.toInt < ((6 : Nat) : Int) := ⟨by omega, by omega⟩
                    refine va_aldq hx hb hK hP 1 2 (gX_1 cs ad nu88_) rfl (show vp_in v3_88 6 from vi_of hx9.1 hx9.2) dX11_digest_99 ?_
                    have hk9 : 8 ≤ (8 + v3_88.toNatClampNeg) ∧ (8 + v3_88.toNatClampNeg) < 14 := ix_of hx9
                    refine lq_v (.ref (ad (8 + v3_88.toNatClampNeg))) rfl ?_
                    refine lv_lload_n hx hb dX11_digest_100 rfl (lv_at hl 1 rfl) ?_
                    refine cr_l (va_runV (As := [.long v1_88]) (rest := []) ⟨hx, hb, hml, hown, hts⟩ (sx_Row_digestOn l dC dI cs ad nu88_ ok H hP (8 + v3_88.toNatClampNeg) hk9.1 hk9.2 v1_88) (cwV 1 hts (wU_V mw_5_28 mw_5_25 mw_5_26 mw_5_27 mw_1_11) rfl rfl rfl (by decide +kernel) ⟨Nat.le_of_ble_eq_true rfl, Nat.le_of_ble_eq_true rfl⟩) ⟨sz_c, va_recv hK hP (ci := 6) (q0 := (8 + v3_88.toNatClampNeg)) rfl (gX_row cs ad nu88_ (8 + v3_88.toNatClampNeg) hk9.1 hk9.2), sz_m hK hz⟩ rfl rfl hl.1 rfl (lv_room (Nat.le_of_ble_eq_true rfl)) dX11_digest_101 ⟨Nat.zero_le _, Nat.zero_le _⟩) hS (fun r10 hw10 locs hS => ?_)
                    refine lv_lstore_n (lv' := [(1, .long r10), (3, .int v3_88), (0, .ref (ad 0))]) hx hb dX11_digest_104 rfl hl (by decide) rfl (fun ls hl => ?_)
                    refine lv_iinc (v := (v3_88 + 1)) (lv' := [(3, .int (v3_88 + 1)), (1, .long r10), (0, .ref (ad 0))]) hx hb dX11_digest_105 hl (k := 1) rfl rfl (by decide) rfl (fun ls hl => ?_)
                    refine loc_gen (P := fun w9 => lv_has ls 4 [(3, .int w9), (1, .long r10), (0, .ref (ad 0))]) (v3_88 + 1) hl (fun w11 hw11 hl => ?_)
                    have hl : lv_has ls 4 [(3, .int w11), (1, .long r10), (0, .ref (ad 0))] := hl
                    have aw11 : w11.toInt = v3_88.toInt + 1 := by rw [← hw11]; exact va1 (by omega)
                    refine lv_goto (tgt := 88) hx hb dX11_digest_108 (by decide) ?_
                    exact ih88 (r10) (w11) nu88_ _ _ _ (by first | exact ms_lt hm_88 (by omega) (by omega) | omega) (by omega)  ok hP  kq88_0 hS (lv_sub hl [0, 1, 2] rfl)
              exact loop88 ((6 + 1 - (0 : Int32).toInt).toNat + 1) (v1_42) (0) nu42_ _ _ _ (Nat.lt_succ_self _) (by have h80 : (0 : Int32).toInt = 0 := rfl; exact ⟨by omega, by omega⟩)  ok hP  kq42_0 hS hl
            · have c_3 : v3_42.toInt < 3 := il_nle c_3
              refine lv_ldc2 (v := 31) hx hb hown (hts _ (List.mem_cons_of_mem _ mw_5_11)) dX11_digest_47 ?_
              refine lv_lload_n hx hb dX11_digest_50 rfl (lv_at hl 1 rfl) ?_
              refine lv_lmul hx hb dX11_digest_51 ?_
              refine lv_topl (fun l12 el12 => ?_)
              refine lv_aload_n hx hb dX11_digest_52 rfl (lv_at hl 2 rfl) ?_
              refine va_get (D := (dC, dI)) (ci := 11) (v := .ref (ad 3)) (C := RX11) (T := TX11) (N := 11) hx hb hts inG11 hown hK hP 0 (gX_0 cs ad nu42_) rfl 2 (by decide) (hts _ (List.mem_cons_of_mem _ mw_2_160)) (fun _ h9 => h9) rfl dX11_digest_53 ?_
              refine lv_iload_n hx hb dX11_digest_56 rfl (lv_at hl 0 rfl) ?_
              have hx13 : 0 ≤ v3_42.toInt ∧ v3_42.toInt < ((3 : Nat) : Int) := ⟨by omega, by omega⟩
              refine va_aldq hx hb hK hP 3 4 (gX_3 cs ad nu42_) rfl (show vp_in v3_42 3 from vi_of hx13.1 hx13.2) dX11_digest_57 ?_
              have hk13 : 18 ≤ (18 + v3_42.toNatClampNeg) ∧ (18 + v3_42.toNatClampNeg) < 21 := ix_of hx13
              refine lq_v (.ref (ad (18 + v3_42.toNatClampNeg))) rfl ?_
              refine va_get (D := (dC, dI)) (ci := 8) (v := .int (nu42_ (18 + v3_42.toNatClampNeg) 5)) (C := RX8) (T := TX8) (N := 6) hx hb hts inG8 hown hK hP (18 + v3_42.toNatClampNeg) (gX_kept cs ad nu42_ (18 + v3_42.toNatClampNeg) hk13.1 hk13.2) rfl 5 (by decide) (hts _ (List.mem_cons_of_mem _ mw_1_129)) (fun _ h9 => h9) rfl dX11_digest_58 ?_
              refine lv_topi (fun y14 ey14 => ?_)
              have by14 : y14.toInt = (nu42_ (18 + v3_42.toNatClampNeg) 5).toInt := congrArg Int32.toInt ey14
              have gy14 : 0 ≤ y14.toInt ∧ y14.toInt ≤ 1 := by rw [ey14]; exact rX_kept_5 ok (18 + v3_42.toNatClampNeg) hk13.1 hk13.2
              refine lv_if_eq (tgt := 76) hx hb dX11_digest_61 (by decide) (fun c_15 => ?_) (fun c_15 => ?_)
              · have c_15 : y14.toInt = 0 := il_eq c_15
                refine lv_iconst (v := (-1)) hx hb dX11_digest_76 (by decide) ?_
                refine lv_i2l hx hb dX11_digest_77 rfl ?_
                refine lv_topl (fun l16 el16 => ?_)
                refine lv_ladd hx hb dX11_digest_78 ?_
                refine lv_topl (fun l17 el17 => ?_)
                refine lv_lstore_n (lv' := [(1, .long l17), (3, .int v3_42), (0, .ref (ad 0))]) hx hb dX11_digest_79 rfl hl (by decide) rfl (fun ls hl => ?_)
                refine lv_iinc (v := (v3_42 + 1)) (lv' := [(3, .int (v3_42 + 1)), (1, .long l17), (0, .ref (ad 0))]) hx hb dX11_digest_80 hl (k := 1) rfl rfl (by decide) rfl (fun ls hl => ?_)
                refine loc_gen (P := fun w9 => lv_has ls 4 [(3, .int w9), (1, .long l17), (0, .ref (ad 0))]) (v3_42 + 1) hl (fun w18 hw18 hl => ?_)
                have hl : lv_has ls 4 [(3, .int w18), (1, .long l17), (0, .ref (ad 0))] := hl
                have aw18 : w18.toInt = v3_42.toInt + 1 := by rw [← hw18]; exact va1 (by omega)
                refine lv_goto (tgt := 42) hx hb dX11_digest_83 (by decide) ?_
                exact ih42 (l17) (w18) nu42_ _ _ _ (by first | exact ms_lt hm_42 (by omega) (by omega) | omega) (by omega)  ok hP  kq42_0 hS (lv_sub hl [0, 1, 2] rfl)
              · have c_15 : ¬ y14.toInt = 0 := il_ne c_15
                refine lv_aload_n hx hb dX11_digest_64 rfl (lv_at hl 2 rfl) ?_
                refine va_get (D := (dC, dI)) (ci := 11) (v := .ref (ad 3)) (C := RX11) (T := TX11) (N := 11) hx hb hts inG11 hown hK hP 0 (gX_0 cs ad nu42_) rfl 2 (by decide) (hts _ (List.mem_cons_of_mem _ mw_2_160)) (fun _ h9 => h9) rfl dX11_digest_65 ?_
                refine lv_iload_n hx hb dX11_digest_68 rfl (lv_at hl 0 rfl) ?_
                have hx19 : 0 ≤ v3_42.toInt ∧ v3_42.toInt < ((3 : Nat) : Int) := ⟨by omega, by omega⟩
                refine va_aldq hx hb hK hP 3 4 (gX_3 cs ad nu42_) rfl (show vp_in v3_42 3 from vi_of hx19.1 hx19.2) dX11_digest_69 ?_
                have hk19 : 18 ≤ (18 + v3_42.toNatClampNeg) ∧ (18 + v3_42.toNatClampNeg) < 21 := ix_of hx19
                refine lq_v (.ref (ad (18 + v3_42.toNatClampNeg))) rfl ?_
                refine va_get (D := (dC, dI)) (ci := 8) (v := .int (nu42_ (18 + v3_42.toNatClampNeg) 3)) (C := RX8) (T := TX8) (N := 6) hx hb hts inG8 hown hK hP (18 + v3_42.toNatClampNeg) (gX_kept cs ad nu42_ (18 + v3_42.toNatClampNeg) hk19.1 hk19.2) rfl 3 (by decide) (hts _ (List.mem_cons_of_mem _ mw_1_124)) (fun _ h9 => h9) rfl dX11_digest_70 ?_
                refine lv_topi (fun y20 ey20 => ?_)
                have by20 : y20.toInt = (nu42_ (18 + v3_42.toNatClampNeg) 3).toInt := congrArg Int32.toInt ey20
                refine lv_goto (tgt := 77) hx hb dX11_digest_73 (by decide) ?_
                refine lv_i2l hx hb dX11_digest_77 rfl ?_
                refine lv_topl (fun l21 el21 => ?_)
                refine lv_ladd hx hb dX11_digest_78 ?_
                refine lv_topl (fun l22 el22 => ?_)
                refine lv_lstore_n (lv' := [(1, .long l22), (3, .int v3_42), (0, .ref (ad 0))]) hx hb dX11_digest_79 rfl hl (by decide) rfl (fun ls hl => ?_)
                refine lv_iinc (v := (v3_42 + 1)) (lv' := [(3, .int (v3_42 + 1)), (1, .long l22), (0, .ref (ad 0))]) hx hb dX11_digest_80 hl (k := 1) rfl rfl (by decide) rfl (fun ls hl => ?_)
                refine loc_gen (P := fun w9 => lv_has ls 4 [(3, .int w9), (1, .long l22), (0, .ref (ad 0))]) (v3_42 + 1) hl (fun w23 hw23 hl => ?_)
                have hl : lv_has ls 4 [(3, .int w23), (1, .long l22), (0, .ref (ad 0))] := hl
                have aw23 : w23.toInt = v3_42.toInt + 1 := by rw [← hw23]; exact va1 (by omega)
                refine lv_goto (tgt := 42) hx hb dX11_digest_83 (by decide) ?_
                exact ih42 (l22) (w23) nu42_ _ _ _ (by first | exact ms_lt hm_42 (by omega) (by omega) | omega) (by omega)  ok hP  kq42_0 hS (lv_sub hl [0, 1, 2] rfl)
        exact loop42 ((3 + 1 - (0 : Int32).toInt).toNat + 1) (r2) (0) nu6_ _ _ _ (Nat.lt_succ_self _) (by have h80 : (0 : Int32).toInt = 0 := rfl; exact ⟨by omega, by omega⟩)  ok hP  kq6_0 hS hl
      · have c_1 : v3_6.toInt < 9 := il_nle c_1
        refine lv_ldc2 (v := 31) hx hb hown (hts _ (List.mem_cons_of_mem _ mw_5_11)) dX11_digest_12 ?_
        refine lv_lload_n hx hb dX11_digest_15 rfl (lv_at hl 1 rfl) ?_
        refine lv_lmul hx hb dX11_digest_16 ?_
        refine lv_topl (fun l24 el24 => ?_)
        refine lv_aload_n hx hb dX11_digest_17 rfl (lv_at hl 2 rfl) ?_
        refine lv_iload_n hx hb dX11_digest_18 rfl (lv_at hl 0 rfl) ?_
        have hFc := fr_all (wR_D nu6_ hD) hS hA
        refine va_calli (va_runV (As := [.int v3_6]) (rest := [.long l24]) ⟨hx, hb, hml, hown, hts⟩ (qx_count l dC dI cs ad nu6_ ok H hP ((wR_D nu6_ hD).weaken (fun _ _ _ _ => trivial)) v3_6) (cwV 1 hts (wU_V mw_4_225 mw_5_12 mw_4_223 mw_4_224 mw_1_1) rfl rfl rfl (by decide +kernel) ⟨Nat.le_of_ble_eq_true rfl, Nat.le_of_ble_eq_true rfl⟩) ⟨sz_c, va_recv hK hP (ci := 11) (q0 := 0) rfl (gX_0 cs ad nu6_), sz_m hK hz⟩ rfl rfl hl.1 rfl (lv_room (Nat.le_of_ble_eq_true rfl)) dX11_digest_19 ⟨Nat.zero_le _, Nat.zero_le _⟩) hS (fun q _ h => hFc q h) hFc (fun r25 xi25 t H25 locs ht hvm hw25 hB hz1 hk1 hS => ?_)
        have hP : va_P (dC, dI) vwCl (wR 157 ad (EX cs ad) xi25) H25 := by rw [← ht]; exact hB
        obtain ⟨ok, hw25, hkp25_0⟩ := hw25
        have kp26 : (∀ k f : Nat, Nat.testBit 510 (gpX k f) = true → xi25 k f = mu k f) := kp_t hkp25_0 (by decide) kq6_0
        refine lv_i2l hx hb dX11_digest_22 rfl ?_
        refine lv_topl (fun l27 el27 => ?_)
        refine lv_ladd hx hb dX11_digest_23 ?_
        refine lv_topl (fun l28 el28 => ?_)
        refine lv_lstore_n (lv' := [(1, .long l28), (3, .int v3_6), (0, .ref (ad 0))]) hx hb dX11_digest_24 rfl hl (by decide) rfl (fun ls hl => ?_)
        refine lv_iinc (v := (v3_6 + 1)) (lv' := [(3, .int (v3_6 + 1)), (1, .long l28), (0, .ref (ad 0))]) hx hb dX11_digest_25 hl (k := 1) rfl rfl (by decide) rfl (fun ls hl => ?_)
        refine loc_gen (P := fun w9 => lv_has ls 4 [(3, .int w9), (1, .long l28), (0, .ref (ad 0))]) (v3_6 + 1) hl (fun w29 hw29 hl => ?_)
        have hl : lv_has ls 4 [(3, .int w29), (1, .long l28), (0, .ref (ad 0))] := hl
        have aw29 : w29.toInt = v3_6.toInt + 1 := by rw [← hw29]; exact va1 (by omega)
        refine lv_goto (tgt := 6) hx hb dX11_digest_28 (by decide) ?_
        exact ih6 (l28) (w29) xi25 _ _ _ (by first | exact ms_lt hm_6 (by omega) (by omega) | omega) (by omega)  ok hP  kp26 hS (lv_sub hl [0, 1, 2] rfl)
  exact loop6 ((9 + 1 - (0 : Int32).toInt).toNat + 1) (17) (0) mu _ _ _ (Nat.lt_succ_self _) (by have h80 : (0 : Int32).toInt = 0 := rfl; exact ⟨by omega, by omega⟩)  ok hP  (fun _ _ _ => rfl) hS hl
set_option maxHeartbeats 4000000 in
set_option maxRecDepth 100000 in
/-- qx_luck -/
theorem qx_luck (l : Launch) (dC : Nat → ClassId) (dI : Nat → Nat → Nat) (cs : Nat → ClassId) (ad : Nat → Nat) (mu : Nat → Nat → Int32) (ok : okR loX hiX mu) (H : Heap) (hP : va_P (dC, dI) vwCl (wR 157 ad (EX cs ad) mu) H) (hD0 : va_D (fun _ => True) (wR 157 ad (EX cs ad) mu)) (vn : Int32) (vs : Int32) : Met l yX11_luck (wU yX11_luck cX11_luck 10 (some .int)) ({ frames := 3, cells := 0, slots := 0, locals := 86 }) (va_Pc [.ref (ad 0), .int vn, .int vs] (sz_P (dC, dI) vwCl (tyW cs) H)) (va_Qi (fun (z : Int32) (xi : Nat → Nat → Int32) => (z, xi) = F_qx_luck mu vn vs ∧ okR loX hiX xi ∧ (True) ∧ (∀ k f : Nat, Nat.testBit 358 (gpX k f) = true → xi k f = mu k f)) (fun xi t => va_P (dC, dI) vwCl (wR 157 ad (EX cs ad) xi) t.heap) (va_A (wR 157 ad (EX cs ad) mu) H.size)) 0 0 (va_A (wR 157 ad (EX cs ad) mu) H.size) := by
  refine Met.ofW (cc := cX11_luck) (maxL := 10) (ret := (some .int)) (by decide) rfl ?_
  intro p e s m args below meth c s₁ B hml hv
  obtain ⟨rfl, hh, hK, hz⟩ := hv
  have hx := B.exec
  have hb := B.bytes
  have hr := B.returns
  have hts := atoms_spec (ws := (wU yX11_luck cX11_luck 10 (some .int))) B.pre
  have hown : s.vm.findClass RX11 = some m.cls := findClass_of_methodNamed B.named
  have hlocks := B.notSynchronized
  subst hh
  have hD := hD0.self (sz := s.heap.size)
  have hA : ∀ q : Nat, s.heap.size ≤ q → (va_A (wR 157 ad (EX cs ad) mu) s.heap.size) q := fun q h => Or.inr h
  have hS : va_S (va_A (wR 157 ad (EX cs ad) mu) s.heap.size) s.heap s.heap [] := va_S.rf
  have hl := lv_entry ([.ref (ad 0), .int vn, .int vs]) (n := 10) (Nat.le_of_ble_eq_true rfl)
  rw [lg_entry_eq]
  generalize (lg_sl ([.ref (ad 0), .int vn, .int vs]) ++ List.replicate (10 - (lg_sl ([.ref (ad 0), .int vn, .int vs])).length) Slot.unset).toArray = ls at hl ⊢
  have hl : lv_has ls 10 [(0, .ref (ad 0)), (1, .int vn), (2, .int vs)] := hl
  obtain ⟨fz, hfz⟩ : ∃ z, F_qx_luck mu vn vs = z := ⟨_, rfl⟩
  have hF := hfz
  unfold F_qx_luck at hF
  refine lv_iload_n hx hb dX11_luck_0 rfl (lv_at hl 1 rfl) ?_
  refine lv_iconst (v := 1) hx hb dX11_luck_1 (by decide) ?_
  refine lv_icmp_lt (tgt := 25) hx hb dX11_luck_2 (by decide) (fun c_1 => ?_) (fun c_1 => ?_)
  · have hF := (if_pos c_1).symm.trans hF
    have c_1 : vn.toInt < 1 := il_lt c_1
    refine lv_iconst (v := (-1)) hx hb dX11_luck_25 (by decide) ?_
    exact W.iret (v := (-1)) hx hb hr (fun t ht hW => ⟨⟨(-1), mu, rfl, ⟨hF.trans hfz.symm, ok, trivial, (fun _ _ _ => rfl)⟩, by first | (subst ht; exact hP) | (rw [ht]; exact hP) | (show va_P (dC, dI) vwCl (wR 157 ad (EX cs ad) mu) t.heap; rw [ht]; exact hP)⟩, hS.F ht⟩) hS.2.2 dX11_luck_26
  · have hF := (if_neg c_1).symm.trans hF
    have c_1 : 1 ≤ vn.toInt := il_nlt c_1
    refine lv_iload_n hx hb dX11_luck_5 rfl (lv_at hl 1 rfl) ?_
    refine lv_bipush (v := 40) hx hb dX11_luck_6 (by decide) ?_
    refine lv_icmp_gt (tgt := 25) hx hb dX11_luck_8 (by decide) (fun c_2 => ?_) (fun c_2 => ?_)
    · have hF := (if_pos c_2).symm.trans hF
      have c_2 : 40 < vn.toInt := il_lt c_2
      refine lv_iconst (v := (-1)) hx hb dX11_luck_25 (by decide) ?_
      exact W.iret (v := (-1)) hx hb hr (fun t ht hW => ⟨⟨(-1), mu, rfl, ⟨hF.trans hfz.symm, ok, trivial, (fun _ _ _ => rfl)⟩, by first | (subst ht; exact hP) | (rw [ht]; exact hP) | (show va_P (dC, dI) vwCl (wR 157 ad (EX cs ad) mu) t.heap; rw [ht]; exact hP)⟩, hS.F ht⟩) hS.2.2 dX11_luck_26
    · have hF := (if_neg c_2).symm.trans hF
      have c_2 : vn.toInt ≤ 40 := il_nlt c_2
      refine lv_iload_n hx hb dX11_luck_11 rfl (lv_at hl 2 rfl) ?_
      refine lv_iconst (v := 1) hx hb dX11_luck_12 (by decide) ?_
      refine lv_icmp_lt (tgt := 25) hx hb dX11_luck_13 (by decide) (fun c_3 => ?_) (fun c_3 => ?_)
      · have hF := (if_pos c_3).symm.trans hF
        have c_3 : vs.toInt < 1 := il_lt c_3
        refine lv_iconst (v := (-1)) hx hb dX11_luck_25 (by decide) ?_
        exact W.iret (v := (-1)) hx hb hr (fun t ht hW => ⟨⟨(-1), mu, rfl, ⟨hF.trans hfz.symm, ok, trivial, (fun _ _ _ => rfl)⟩, by first | (subst ht; exact hP) | (rw [ht]; exact hP) | (show va_P (dC, dI) vwCl (wR 157 ad (EX cs ad) mu) t.heap; rw [ht]; exact hP)⟩, hS.F ht⟩) hS.2.2 dX11_luck_26
      · have hF := (if_neg c_3).symm.trans hF
        have c_3 : 1 ≤ vs.toInt := il_nlt c_3
        refine lv_iload_n hx hb dX11_luck_16 rfl (lv_at hl 2 rfl) ?_
        refine lv_i2l hx hb dX11_luck_17 rfl ?_
        refine lv_topl (fun l4 el4 => ?_)
        have hF := mi_let hF el4
        refine lv_ldc2 (v := 2147483647) hx hb hown (hts _ (List.mem_cons_of_mem _ mw_4_191)) dX11_luck_18 ?_
        refine W.lcmp hx hb dX11_luck_21 ?_
        refine lv_topi (fun t5 et5 => ?_)
        have hF := mi_let hF et5
        refine lv_if_lt (tgt := 27) hx hb dX11_luck_22 (by decide) (fun c_6 => ?_) (fun c_6 => ?_)
        · have hF := (if_pos c_6).symm.trans hF
          have c_6 : t5.toInt < 0 := il_lt c_6
          refine lv_aload_n hx hb dX11_luck_27 rfl (lv_at hl 0 rfl) ?_
          refine va_get (D := (dC, dI)) (ci := 11) (v := .ref (ad 4)) (C := RX11) (T := TX11) (N := 11) hx hb hts inG11 hown hK hP 0 (gX_0 cs ad mu) rfl 3 (by decide) (hts _ (List.mem_cons_of_mem _ mw_2_161)) (fun _ h9 => h9) rfl dX11_luck_28 ?_
          refine va_get (D := (dC, dI)) (ci := 10) (v := .int (mu 4 6)) (C := RX10) (T := TX10) (N := 8) hx hb hts inG10 hown hK hP 4 (gX_4 cs ad mu) rfl 6 (by decide) (hts _ (List.mem_cons_of_mem _ mw_1_164)) (fun _ h9 => h9) rfl dX11_luck_31 ?_
          refine lv_topi (fun y7 ey7 => ?_)
          have hF := mi_let hF ey7
          have by7 : y7.toInt = (mu 4 6).toInt := congrArg Int32.toInt ey7
          have gy7 : 0 ≤ y7.toInt ∧ y7.toInt ≤ 7 := by rw [ey7]; exact rX_4_6 ok
          refine lv_if_ne (tgt := 40) hx hb dX11_luck_34 (by decide) (fun c_8 => ?_) (fun c_8 => ?_)
          · have hF := (if_neg c_8).symm.trans hF
            have c_8 : ¬ y7.toInt = 0 := il_ne c_8
            refine lv_aload_n hx hb dX11_luck_40 rfl (lv_at hl 0 rfl) ?_
            refine va_get (D := (dC, dI)) (ci := 11) (v := .ref (ad 4)) (C := RX11) (T := TX11) (N := 11) hx hb hts inG11 hown hK hP 0 (gX_0 cs ad mu) rfl 3 (by decide) (hts _ (List.mem_cons_of_mem _ mw_2_161)) (fun _ h9 => h9) rfl dX11_luck_41 ?_
            refine va_get (D := (dC, dI)) (ci := 10) (v := .ref (ad 5)) (C := RX10) (T := TX10) (N := 8) hx hb hts inG10 hown hK hP 4 (gX_4 cs ad mu) rfl 3 (by decide) (hts _ (List.mem_cons_of_mem _ mw_1_157)) (fun _ h9 => h9) rfl dX11_luck_44 ?_
            refine va_get (D := (dC, dI)) (ci := 8) (v := .int (mu 5 3)) (C := RX8) (T := TX8) (N := 6) hx hb hts inG8 hown hK hP 5 (gX_5 cs ad mu) rfl 3 (by decide) (hts _ (List.mem_cons_of_mem _ mw_1_124)) (fun _ h9 => h9) rfl dX11_luck_47 ?_
            refine lv_topi (fun y9 ey9 => ?_)
            have hF := mi_let hF ey9
            have by9 : y9.toInt = (mu 5 3).toInt := congrArg Int32.toInt ey9
            refine lv_iload_n hx hb dX11_luck_50 rfl (lv_at hl 1 rfl) ?_
            refine lv_iadd hx hb dX11_luck_51 ?_
            refine lv_topi (fun t10 et10 => ?_)
            have hF := mi_let hF et10
            refine lv_bipush (v := 99) hx hb dX11_luck_52 (by decide) ?_
            refine lv_icmp_le (tgt := 60) hx hb dX11_luck_54 (by decide) (fun c_11 => ?_) (fun c_11 => ?_)
            · have hF := (if_pos c_11).symm.trans hF
              have c_11 : t10.toInt ≤ 99 := il_le c_11
              refine lv_iload_n hx hb dX11_luck_60 rfl (lv_at hl 2 rfl) ?_
              refine lv_i2l hx hb dX11_luck_61 rfl ?_
              refine lv_topl (fun l12 el12 => ?_)
              have hF := mi_let hF el12
              refine lv_lstore_n (lv' := [(3, .long l12), (0, .ref (ad 0)), (1, .int vn), (2, .int vs)]) hx hb dX11_luck_62 rfl hl (by decide) rfl (fun ls hl => ?_)
              refine lv_iconst (v := 0) hx hb dX11_luck_63 (by decide) ?_
              refine lv_istore (lv' := [(5, .int 0), (3, .long l12), (0, .ref (ad 0)), (1, .int vn), (2, .int vs)]) hx hb dX11_luck_64 hl (by decide) rfl (fun ls hl => ?_)
              refine lv_iconst (v := 0) hx hb dX11_luck_66 (by decide) ?_
              refine lv_istore (lv' := [(6, .int 0), (5, .int 0), (3, .long l12), (0, .ref (ad 0)), (1, .int vn), (2, .int vs)]) hx hb dX11_luck_67 hl (by decide) rfl (fun ls hl => ?_)
              have loop69 : ∀ (n69 : Nat) (v3_69 : Int64) (v5_69 : Int32) (v6_69 : Int32) (nu69_ : Nat → Nat → Int32) (H : Heap) (locs : List Loc) (ls : Array Slot), (40 + 1 - v6_69.toInt).toNat < n69 → (0 ≤ v6_69.toInt ∧ v6_69.toInt ≤ 40) → okR loX hiX nu69_ → va_P (dC, dI) vwCl (wR 157 ad (EX cs ad) nu69_) H → (∀ k f : Nat, Nat.testBit 358 (gpX k f) = true → nu69_ k f = mu k f) → L_qx_luck_69_0 vn n69 v3_69 v5_69 v6_69 nu69_ = fz → va_S (va_A (wR 157 ad (EX cs ad) mu) s.heap.size) s.heap H locs → lv_has ls 10 [(6, .int v6_69), (5, .int v5_69), (3, .long v3_69), (0, .ref (ad 0)), (1, .int vn), (2, .int vs)] → W p l e (headSpec (wU yX11_luck cX11_luck 10 (some .int)) ({ frames := 3, cells := 0, slots := 0, locals := 86 })).room s m ([.ref (ad 0), .int vn, .int vs] : List Value).toArray below meth c H locs 0 0 (MQ below (va_Qi (fun (z : Int32) (xi : Nat → Nat → Int32) => (z, xi) = F_qx_luck mu vn vs ∧ okR loX hiX xi ∧ (True) ∧ (∀ k f : Nat, Nat.testBit 358 (gpX k f) = true → xi k f = mu k f)) (fun xi t => va_P (dC, dI) vwCl (wR 157 ad (EX cs ad) xi) t.heap) (va_A (wR 157 ad (EX cs ad) mu) s.heap.size)) ([.ref (ad 0), .int vn, .int vs] : List Value).toArray s 0 0 (va_A (wR 157 ad (EX cs ad) mu) s.heap.size)) (F0 m 69 ls []) := by
                intro n69
                induction n69 with
                | zero => intro v3_69 v5_69 v6_69 nu69_ H locs ls hm; exact absurd hm (Nat.not_lt_zero _)
                | succ n69 ih69 =>
                  intro v3_69 v5_69 v6_69 nu69_ H locs ls hm_69 h_v6_69 ok hP kq69_0 hF hS hl
                  rw [L_qx_luck_69_0] at hF
                  refine lv_iload hx hb dX11_luck_69 (lv_at hl 0 rfl) ?_
                  refine lv_iload_n hx hb dX11_luck_71 rfl (lv_at hl 4 rfl) ?_
                  refine lv_icmp_ge (tgt := 235) hx hb dX11_luck_72 (by decide) (fun c_13 => ?_) (fun c_13 => ?_)
                  · have hF := (if_pos c_13).symm.trans hF
                    have c_13 : vn.toInt ≤ v6_69.toInt := il_le c_13
                    refine lv_iload hx hb dX11_luck_235 (lv_at hl 1 rfl) ?_
                    exact W.iret (v := v5_69) hx hb hr (fun t ht hW => ⟨⟨v5_69, nu69_, rfl, ⟨hF.trans hfz.symm, ok, trivial, kq69_0⟩, by first | (subst ht; exact hP) | (rw [ht]; exact hP) | (show va_P (dC, dI) vwCl (wR 157 ad (EX cs ad) nu69_) t.heap; rw [ht]; exact hP)⟩, hS.F ht⟩) hS.2.2 dX11_luck_237
                  · have hF := (if_neg c_13).symm.trans hF
                    have c_13 : v6_69.toInt < vn.toInt := il_nle c_13
                    refine lv_iconst (v := 0) hx hb dX11_luck_75 (by decide) ?_
                    refine lv_istore (lv' := [(7, .int 0), (6, .int v6_69), (5, .int v5_69), (3, .long v3_69), (0, .ref (ad 0)), (1, .int vn), (2, .int vs)]) hx hb dX11_luck_76 hl (by decide) rfl (fun ls hl => ?_)
                    have loop78 : ∀ (n78 : Nat) (v3_78 : Int64) (v5_78 : Int32) (v7_78 : Int32) (nu78_ : Nat → Nat → Int32) (H : Heap) (locs : List Loc) (ls : Array Slot), (4 + 1 - v7_78.toInt).toNat < n78 → (0 ≤ v7_78.toInt ∧ v7_78.toInt ≤ 4) → okR loX hiX nu78_ → va_P (dC, dI) vwCl (wR 157 ad (EX cs ad) nu78_) H → (∀ k f : Nat, Nat.testBit 358 (gpX k f) = true → nu78_ k f = mu k f) → L_qx_luck_78_1 v6_69 (fun z_v3_69 z_v5_69 z_v6_69 z_nu69_ => L_qx_luck_69_0 vn n69 z_v3_69 z_v5_69 z_v6_69 z_nu69_) n78 v3_78 v5_78 v7_78 nu78_ = fz → va_S (va_A (wR 157 ad (EX cs ad) mu) s.heap.size) s.heap H locs → lv_has ls 10 [(7, .int v7_78), (6, .int v6_69), (5, .int v5_78), (3, .long v3_78), (0, .ref (ad 0)), (1, .int vn), (2, .int vs)] → W p l e (headSpec (wU yX11_luck cX11_luck 10 (some .int)) ({ frames := 3, cells := 0, slots := 0, locals := 86 })).room s m ([.ref (ad 0), .int vn, .int vs] : List Value).toArray below meth c H locs 0 0 (MQ below (va_Qi (fun (z : Int32) (xi : Nat → Nat → Int32) => (z, xi) = F_qx_luck mu vn vs ∧ okR loX hiX xi ∧ (True) ∧ (∀ k f : Nat, Nat.testBit 358 (gpX k f) = true → xi k f = mu k f)) (fun xi t => va_P (dC, dI) vwCl (wR 157 ad (EX cs ad) xi) t.heap) (va_A (wR 157 ad (EX cs ad) mu) s.heap.size)) ([.ref (ad 0), .int vn, .int vs] : List Value).toArray s 0 0 (va_A (wR 157 ad (EX cs ad) mu) s.heap.size)) (F0 m 78 ls []) := by
                      intro n78
                      induction n78 with
                      | zero => intro v3_78 v5_78 v7_78 nu78_ H locs ls hm; exact absurd hm (Nat.not_lt_zero _)
                      | succ n78 ih78 =>
                        intro v3_78 v5_78 v7_78 nu78_ H locs ls hm_78 h_v7_78 ok hP kq78_0 hF hS hl
                        rw [L_qx_luck_78_1] at hF
                        refine lv_iload hx hb dX11_luck_78 (lv_at hl 0 rfl) ?_
                        refine lv_aload_n hx hb dX11_luck_80 rfl (lv_at hl 4 rfl) ?_
                        refine va_get (D := (dC, dI)) (ci := 11) (v := .ref (ad 4)) (C := RX11) (T := TX11) (N := 11) hx hb hts inG11 hown hK hP 0 (gX_0 cs ad nu78_) rfl 3 (by decide) (hts _ (List.mem_cons_of_mem _ mw_2_161)) (fun _ h9 => h9) rfl dX11_luck_81 ?_
                        refine va_get (D := (dC, dI)) (ci := 10) (v := .ref (ad 5)) (C := RX10) (T := TX10) (N := 8) hx hb hts inG10 hown hK hP 4 (gX_4 cs ad nu78_) rfl 3 (by decide) (hts _ (List.mem_cons_of_mem _ mw_1_157)) (fun _ h9 => h9) rfl dX11_luck_84 ?_
                        refine va_get (D := (dC, dI)) (ci := 8) (v := .int (nu78_ 5 4)) (C := RX8) (T := TX8) (N := 6) hx hb hts inG8 hown hK hP 5 (gX_5 cs ad nu78_) rfl 4 (by decide) (hts _ (List.mem_cons_of_mem _ mw_1_128)) (fun _ h9 => h9) rfl dX11_luck_87 ?_
                        refine lv_topi (fun y14 ey14 => ?_)
                        have hF := mi_let hF ey14
                        have by14 : y14.toInt = (nu78_ 5 4).toInt := congrArg Int32.toInt ey14
                        have gy14 : 0 ≤ y14.toInt ∧ y14.toInt ≤ 4 := by rw [ey14]; exact rX_5_4 ok
                        refine lv_icmp_ge (tgt := 213) hx hb dX11_luck_90 (by decide) (fun c_15 => ?_) (fun c_15 => ?_)
                        · have hF := (if_pos c_15).symm.trans hF
                          have c_15 : y14.toInt ≤ v7_78.toInt := il_le c_15
                          refine lv_aload_n hx hb dX11_luck_213 rfl (lv_at hl 4 rfl) ?_
                          refine va_get (D := (dC, dI)) (ci := 11) (v := .ref (ad 4)) (C := RX11) (T := TX11) (N := 11) hx hb hts inG11 hown hK hP 0 (gX_0 cs ad nu78_) rfl 3 (by decide) (hts _ (List.mem_cons_of_mem _ mw_2_161)) (fun _ h9 => h9) rfl dX11_luck_214 ?_
                          refine va_get (D := (dC, dI)) (ci := 10) (v := .ref (ad 5)) (C := RX10) (T := TX10) (N := 8) hx hb hts inG10 hown hK hP 4 (gX_4 cs ad nu78_) rfl 3 (by decide) (hts _ (List.mem_cons_of_mem _ mw_1_157)) (fun _ h9 => h9) rfl dX11_luck_217 ?_
                          refine lv_dup hx hb dX11_luck_220 rfl ?_
                          refine va_get (D := (dC, dI)) (ci := 8) (v := .int (nu78_ 5 3)) (C := RX8) (T := TX8) (N := 6) hx hb hts inG8 hown hK hP 5 (gX_5 cs ad nu78_) rfl 3 (by decide) (hts _ (List.mem_cons_of_mem _ mw_1_124)) (fun _ h9 => h9) rfl dX11_luck_221 ?_
                          refine lv_topi (fun y16 ey16 => ?_)
                          have hF := mi_let hF ey16
                          have by16 : y16.toInt = (nu78_ 5 3).toInt := congrArg Int32.toInt ey16
                          refine lv_iconst (v := 1) hx hb dX11_luck_224 (by decide) ?_
                          refine lv_iadd hx hb dX11_luck_225 ?_
                          refine lv_topi (fun t17 et17 => ?_)
                          have hF := mi_let hF et17
                          refine va_put (D := (dC, dI)) (ci := 8) (v := .int t17) (ty := .int) (C := RX8) (T := TX8) (N := 6) hx hb hts inG8 tyX8 tyX8_ok nmX8 hown hK hP (wR_D nu78_ hD) hS 5 (gX_5 cs ad nu78_) rfl 3 (by decide) (hts _ (List.mem_cons_of_mem _ mw_1_124)) (fun _ h9 => h9) rfl (by decide +kernel) rfl rfl (Nat.le_of_ble_eq_true rfl) dX11_luck_226 (fun H locs hP _ hS => ?_)
                          simp only [List.set_cons_succ, List.set_cons_zero] at hP
                          refine wr_gen (upd (nu78_ 5) 3 t17) hP ((hX_5_3 cs ad _ _)) (fun nu18 hn18 hP => ?_)
                          have hF := mi_let hF hn18.symm
                          have ok := tX_5_3 ok hn18
                          have ez19 : y14 = nu18 5 4 := ey14.trans (up_f hn18 (by decide)).symm
                          have kp20 : (∀ k f : Nat, Nat.testBit 358 (gpX k f) = true → nu18 k f = mu k f) := kp_f hn18 (by decide) kq78_0
                          have ez21 : t17 = nu18 5 3 := up_v hn18
                          refine lv_iinc (v := (v6_69 + 1)) (lv' := [(6, .int (v6_69 + 1)), (7, .int v7_78), (5, .int v5_78), (3, .long v3_78), (0, .ref (ad 0)), (1, .int vn), (2, .int vs)]) hx hb dX11_luck_229 hl (k := 1) rfl rfl (by decide) rfl (fun ls hl => ?_)
                          refine loc_gen (P := fun w9 => lv_has ls 10 [(6, .int w9), (7, .int v7_78), (5, .int v5_78), (3, .long v3_78), (0, .ref (ad 0)), (1, .int vn), (2, .int vs)]) (v6_69 + 1) hl (fun w22 hw22 hl => ?_)
                          have hl : lv_has ls 10 [(6, .int w22), (7, .int v7_78), (5, .int v5_78), (3, .long v3_78), (0, .ref (ad 0)), (1, .int vn), (2, .int vs)] := hl
                          have hF := mi_let hF hw22.symm
                          have aw22 : w22.toInt = v6_69.toInt + 1 := by rw [← hw22]; exact va1 (by omega)
                          refine lv_goto (tgt := 69) hx hb dX11_luck_232 (by decide) ?_
                          exact ih69 (v3_78) (v5_78) (w22) nu18 _ _ _ (by first | exact ms_lt hm_69 (by omega) (by omega) | omega) (by omega)  ok hP  kp20 hF hS (lv_sub hl [0, 2, 3, 4, 5, 6] rfl)
                        · have hF := (if_neg c_15).symm.trans hF
                          have c_15 : v7_78.toInt < y14.toInt := il_nle c_15
                          refine lv_aload_n hx hb dX11_luck_93 rfl (lv_at hl 4 rfl) ?_
                          refine va_get (D := (dC, dI)) (ci := 11) (v := .ref (ad 4)) (C := RX11) (T := TX11) (N := 11) hx hb hts inG11 hown hK hP 0 (gX_0 cs ad nu78_) rfl 3 (by decide) (hts _ (List.mem_cons_of_mem _ mw_2_161)) (fun _ h9 => h9) rfl dX11_luck_94 ?_
                          refine lv_aload_n hx hb dX11_luck_97 rfl (lv_at hl 4 rfl) ?_
                          refine va_get (D := (dC, dI)) (ci := 11) (v := .ref (ad 4)) (C := RX11) (T := TX11) (N := 11) hx hb hts inG11 hown hK hP 0 (gX_0 cs ad nu78_) rfl 3 (by decide) (hts _ (List.mem_cons_of_mem _ mw_2_161)) (fun _ h9 => h9) rfl dX11_luck_98 ?_
                          refine va_get (D := (dC, dI)) (ci := 10) (v := .ref (ad 5)) (C := RX10) (T := TX10) (N := 8) hx hb hts inG10 hown hK hP 4 (gX_4 cs ad nu78_) rfl 3 (by decide) (hts _ (List.mem_cons_of_mem _ mw_1_157)) (fun _ h9 => h9) rfl dX11_luck_101 ?_
                          refine va_get (D := (dC, dI)) (ci := 8) (v := .ref (ad 47)) (C := RX8) (T := TX8) (N := 6) hx hb hts inG8 hown hK hP 5 (gX_5 cs ad nu78_) rfl 1 (by decide) (hts _ (List.mem_cons_of_mem _ mw_1_112)) (fun _ h9 => h9) rfl dX11_luck_104 ?_
                          refine lv_iload hx hb dX11_luck_107 (lv_at hl 0 rfl) ?_
                          have hx23 : 0 ≤ v7_78.toInt ∧ v7_78.toInt < ((4 : Nat) : Int) := ⟨by omega, by omega⟩
                          refine va_aldq hx hb hK hP 47 5 (gX_47 cs ad nu78_) rfl (show vp_in v7_78 4 from vi_of hx23.1 hx23.2) dX11_luck_109 ?_
                          have hk23 : 61 ≤ (61 + v7_78.toNatClampNeg) ∧ (61 + v7_78.toNatClampNeg) < 65 := ix_of hx23
                          have hk23 : 61 ≤ (61 + v7_78.toNatClampNeg) ∧ (61 + v7_78.toNatClampNeg) < 77 := ⟨Nat.le_trans (by decide) hk23.1, Nat.lt_of_lt_of_le hk23.2 (by decide)⟩
                          refine lq_v (.ref (ad (61 + v7_78.toNatClampNeg))) rfl ?_
                          refine cr_i (va_runV (As := [.ref (ad (61 + v7_78.toNatClampNeg))]) (rest := []) ⟨hx, hb, hml, hown, hts⟩ (sx_buyersOf l dC dI cs ad nu78_ ok H hP (61 + v7_78.toNatClampNeg) hk23.1 hk23.2) (cwV 1 hts (wU_V mw_3_161 mw_3_158 mw_3_159 mw_3_160 mw_1_2) rfl rfl rfl (by decide +kernel) ⟨Nat.le_of_ble_eq_true rfl, Nat.le_of_ble_eq_true rfl⟩) ⟨sz_c, va_recv hK hP (ci := 10) (q0 := 4) rfl (gX_4 cs ad nu78_), sz_m hK hz⟩ rfl rfl hl.1 rfl (lv_room (Nat.le_of_ble_eq_true rfl)) dX11_luck_110 ⟨Nat.zero_le _, Nat.zero_le _⟩) hS (fun r24 hw24 locs hS => ?_)
                          obtain ⟨hfe24, hw24⟩ := hw24
                          have hF := mi_let hF hfe24
                          refine lv_istore (lv' := [(8, .int r24), (7, .int v7_78), (6, .int v6_69), (5, .int v5_78), (3, .long v3_78), (0, .ref (ad 0)), (1, .int vn), (2, .int vs)]) hx hb dX11_luck_113 hl (by decide) rfl (fun ls hl => ?_)
                          refine lv_iload hx hb dX11_luck_115 (lv_at hl 0 rfl) ?_
                          refine cr_i (va_runS (As := [.int r24]) (rest := []) ⟨hx, hb, hml, hown, hts⟩ (sx_bitCount l dC dI (tyW cs) H r24) (va_cwS 1 hts (wU_S mw_3_90 mw_4_98 mw_3_89 mw_1_16) rfl rfl rfl (by decide +kernel) ⟨Nat.le_of_ble_eq_true rfl, Nat.le_of_ble_eq_true rfl⟩) ⟨sz_c, sz_m hK hz⟩ rfl rfl hl.1 rfl (lv_room (Nat.le_of_ble_eq_true rfl)) dX11_luck_117 ⟨Nat.zero_le _, Nat.zero_le _⟩) hS (fun r25 hw25 locs hS => ?_)
                          obtain ⟨hfe25, hw25⟩ := hw25
                          have hF := mi_let hF hfe25
                          refine lv_istore (lv' := [(9, .int r25), (8, .int r24), (7, .int v7_78), (6, .int v6_69), (5, .int v5_78), (3, .long v3_78), (0, .ref (ad 0)), (1, .int vn), (2, .int vs)]) hx hb dX11_luck_120 hl (by decide) rfl (fun ls hl => ?_)
                          refine lv_iload hx hb dX11_luck_122 (lv_at hl 0 rfl) ?_
                          refine lv_if_ne (tgt := 130) hx hb dX11_luck_124 (by decide) (fun c_26 => ?_) (fun c_26 => ?_)
                          · have hF := (if_neg c_26).symm.trans hF
                            have c_26 : ¬ r25.toInt = 0 := il_ne c_26
                            refine lv_aload_n hx hb dX11_luck_130 rfl (lv_at hl 6 rfl) ?_
                            refine va_get (D := (dC, dI)) (ci := 11) (v := .ref (ad 6)) (C := RX11) (T := TX11) (N := 11) hx hb hts inG11 hown hK hP 0 (gX_0 cs ad nu78_) rfl 5 (by decide) (hts _ (List.mem_cons_of_mem _ mw_2_163)) (fun _ h9 => h9) rfl dX11_luck_131 ?_
                            refine cr_i (va_runV (As := []) (rest := []) ⟨hx, hb, hml, hown, hts⟩ (sx_isFull l dC dI cs ad nu78_ ok H hP) (cwV 0 hts (wU_V mw_3_178 mw_3_175 mw_3_176 mw_3_177 mw_1_6) rfl rfl rfl (by decide +kernel) ⟨Nat.le_of_ble_eq_true rfl, Nat.le_of_ble_eq_true rfl⟩) ⟨sz_c, va_recv hK hP (ci := 2) (q0 := 6) rfl (gX_6 cs ad nu78_), sz_m hK hz⟩ rfl rfl hl.1 rfl (lv_room (Nat.le_of_ble_eq_true rfl)) dX11_luck_134 ⟨Nat.zero_le _, Nat.zero_le _⟩) hS (fun r27 hw27 locs hS => ?_)
                            obtain ⟨hfe27, hw27⟩ := hw27
                            rcases hw27 with ⟨rfl, f27⟩ | ⟨rfl, f27⟩
                            · have hF := (if_pos hfe27.symm).symm.trans hF
                              have f27 : 40 ≤ (nu78_ 6 1).toInt := f27
                              refine lv_if_eq (tgt := 143) hx hb dX11_luck_137 (by decide) (fun c => absurd c (by decide)) (fun _ => ?_)
                              refine lv_iload hx hb dX11_luck_140 (lv_at hl 4 rfl) ?_
                              exact W.iret (v := v5_78) hx hb hr (fun t ht hW => ⟨⟨v5_78, nu78_, rfl, ⟨hF.trans hfz.symm, ok, trivial, kq78_0⟩, by first | (subst ht; exact hP) | (rw [ht]; exact hP) | (show va_P (dC, dI) vwCl (wR 157 ad (EX cs ad) nu78_) t.heap; rw [ht]; exact hP)⟩, hS.F ht⟩) hS.2.2 dX11_luck_142
                            · have hF := (if_neg (fun h => absurd (hfe27.trans h) (by decide))).symm.trans hF
                              have f27 : (nu78_ 6 1).toInt ≤ 39 := f27
                              refine lv_if_eq (tgt := 143) hx hb dX11_luck_137 (by decide) (fun _ => ?_) (fun c => absurd (by decide) c)
                              refine lv_lload_n hx hb dX11_luck_143 rfl (lv_at hl 5 rfl) ?_
                              refine lv_ldc2 (v := 48271) hx hb hown (hts _ (List.mem_cons_of_mem _ mw_4_192)) dX11_luck_144 ?_
                              refine lv_lmul hx hb dX11_luck_147 ?_
                              refine lv_topl (fun l28 el28 => ?_)
                              have hF := mi_let hF el28
                              refine lv_ldc2 (v := 2147483647) hx hb hown (hts _ (List.mem_cons_of_mem _ mw_4_191)) dX11_luck_148 ?_
                              refine lv_lrem hx hb dX11_luck_151 (by decide) ?_
                              refine lv_topl (fun l29 el29 => ?_)
                              have hF := mi_let hF el29
                              refine lv_lstore_n (lv' := [(3, .long l29), (9, .int r25), (8, .int r24), (7, .int v7_78), (6, .int v6_69), (5, .int v5_78), (0, .ref (ad 0)), (1, .int vn), (2, .int vs)]) hx hb dX11_luck_152 rfl hl (by decide) rfl (fun ls hl => ?_)
                              refine lv_aload_n hx hb dX11_luck_153 rfl (lv_at hl 6 rfl) ?_
                              refine va_get (D := (dC, dI)) (ci := 11) (v := .ref (ad 6)) (C := RX11) (T := TX11) (N := 11) hx hb hts inG11 hown hK hP 0 (gX_0 cs ad nu78_) rfl 5 (by decide) (hts _ (List.mem_cons_of_mem _ mw_2_163)) (fun _ h9 => h9) rfl dX11_luck_154 ?_
                              refine lv_aload_n hx hb dX11_luck_157 rfl (lv_at hl 6 rfl) ?_
                              refine va_get (D := (dC, dI)) (ci := 11) (v := .ref (ad 4)) (C := RX11) (T := TX11) (N := 11) hx hb hts inG11 hown hK hP 0 (gX_0 cs ad nu78_) rfl 3 (by decide) (hts _ (List.mem_cons_of_mem _ mw_2_161)) (fun _ h9 => h9) rfl dX11_luck_158 ?_
                              refine lv_iload hx hb dX11_luck_161 (lv_at hl 3 rfl) ?_
                              refine lv_iload hx hb dX11_luck_163 (lv_at hl 2 rfl) ?_
                              refine lv_lload_n hx hb dX11_luck_165 rfl (lv_at hl 0 rfl) ?_
                              refine lv_iload hx hb dX11_luck_166 (lv_at hl 1 rfl) ?_
                              refine lv_i2l hx hb dX11_luck_168 rfl ?_
                              refine lv_topl (fun l30 el30 => ?_)
                              have hF := mi_let hF el30
                              refine lv_lrem hx hb dX11_luck_169 (by rw [el30]; exact l_ne (by omega)) ?_
                              refine lv_topl (fun l31 el31 => ?_)
                              have hF := mi_let hF el31
                              refine lv_l2i hx hb dX11_luck_170 rfl ?_
                              refine lv_topi (fun t32 et32 => ?_)
                              have hF := mi_let hF et32
                              refine cr_i (va_runS (As := [.int r24, .int t32]) (rest := [.int v7_78, .ref (ad 4), .ref (ad 6)]) ⟨hx, hb, hml, hown, hts⟩ (sx_bitAt l dC dI (tyW cs) H r24 t32) (va_cwS 2 hts (wU_S mw_4_195 mw_4_193 mw_4_194 mw_1_1) rfl rfl rfl (by decide +kernel) ⟨Nat.le_of_ble_eq_true rfl, Nat.le_of_ble_eq_true rfl⟩) ⟨sz_c, sz_m hK hz⟩ rfl rfl hl.1 rfl (lv_room (Nat.le_of_ble_eq_true rfl)) dX11_luck_171 ⟨Nat.zero_le _, Nat.zero_le _⟩) hS (fun r33 hw33 locs hS => ?_)
                              obtain ⟨hfe33, hw33⟩ := hw33
                              have hF := mi_let hF hfe33
                              have gr33 : 0 ≤ r33.toInt ∧ r33.toInt ≤ 6 := hw33
                              have hFc := fr_all (wR_D nu78_ hD) hS hA
                              refine va_calli (va_runV (As := [.ref (ad 4), .int v7_78, .int r33]) (rest := []) ⟨hx, hb, hml, hown, hts⟩ (sx_enterSale l dC dI cs ad nu78_ ok H hP ((wR_D nu78_ hD).weaken (fun _ _ _ _ => trivial)) v7_78 r33 (by omega) (by omega)) (cwV 3 hts (wU_V mw_3_182 mw_3_179 mw_3_180 mw_3_181 mw_1_6) rfl rfl rfl (by decide +kernel) ⟨Nat.le_of_ble_eq_true rfl, Nat.le_of_ble_eq_true rfl⟩) ⟨sz_c, va_recv hK hP (ci := 2) (q0 := 6) rfl (gX_6 cs ad nu78_), sz_m hK hz⟩ rfl rfl hl.1 rfl (lv_room (Nat.le_of_ble_eq_true rfl)) dX11_luck_174 ⟨Nat.zero_le _, Nat.zero_le _⟩) hS (fun q _ h => hFc q h) hFc (fun r34 xi34 t H34 locs ht hvm hw34 hB hz1 hk1 hS => ?_)
                              have hP : va_P (dC, dI) vwCl (wR 157 ad (EX cs ad) xi34) H34 := by rw [← ht]; exact hB
                              obtain ⟨hfe34, ok, hw34, hkp34_0⟩ := hw34
                              have hF := mi_letp hF hfe34
                              have kp35 : (∀ k f : Nat, Nat.testBit 358 (gpX k f) = true → xi34 k f = mu k f) := kp_t hkp34_0 (by decide) kq78_0
                              refine lv_pop hx hb dX11_luck_177 rfl ?_
                              refine lv_iload hx hb dX11_luck_178 (lv_at hl 5 rfl) ?_
                              refine lv_aload_n hx hb dX11_luck_180 rfl (lv_at hl 6 rfl) ?_
                              refine va_get (D := (dC, dI)) (ci := 11) (v := .ref (ad 4)) (C := RX11) (T := TX11) (N := 11) hx hb hts inG11 hown hK hP 0 (gX_0 cs ad xi34) rfl 3 (by decide) (hts _ (List.mem_cons_of_mem _ mw_2_161)) (fun _ h9 => h9) rfl dX11_luck_181 ?_
                              refine va_get (D := (dC, dI)) (ci := 10) (v := .ref (ad 5)) (C := RX10) (T := TX10) (N := 8) hx hb hts inG10 hown hK hP 4 (gX_4 cs ad xi34) rfl 3 (by decide) (hts _ (List.mem_cons_of_mem _ mw_1_157)) (fun _ h9 => h9) rfl dX11_luck_184 ?_
                              refine va_get (D := (dC, dI)) (ci := 8) (v := .ref (ad 47)) (C := RX8) (T := TX8) (N := 6) hx hb hts inG8 hown hK hP 5 (gX_5 cs ad xi34) rfl 1 (by decide) (hts _ (List.mem_cons_of_mem _ mw_1_112)) (fun _ h9 => h9) rfl dX11_luck_187 ?_
                              refine lv_iload hx hb dX11_luck_190 (lv_at hl 3 rfl) ?_
                              have hx36 : 0 ≤ v7_78.toInt ∧ v7_78.toInt < ((4 : Nat) : Int) := ⟨by omega, by omega⟩
                              refine va_aldq hx hb hK hP 47 5 (gX_47 cs ad xi34) rfl (show vp_in v7_78 4 from vi_of hx36.1 hx36.2) dX11_luck_192 ?_
                              have hk36 : 61 ≤ (61 + v7_78.toNatClampNeg) ∧ (61 + v7_78.toNatClampNeg) < 65 := ix_of hx36
                              have hk36 : 61 ≤ (61 + v7_78.toNatClampNeg) ∧ (61 + v7_78.toNatClampNeg) < 77 := ⟨Nat.le_trans (by decide) hk36.1, Nat.lt_of_lt_of_le hk36.2 (by decide)⟩
                              refine lq_v (.ref (ad (61 + v7_78.toNatClampNeg))) rfl ?_
                              refine va_get (D := (dC, dI)) (ci := 3) (v := .int (xi34 (61 + v7_78.toNatClampNeg) 9)) (C := RX3) (T := TX3) (N := 10) hx hb hts inG3 hown hK hP (61 + v7_78.toNatClampNeg) (gX_letter cs ad xi34 (61 + v7_78.toNatClampNeg) hk36.1 hk36.2) rfl 9 (by decide) (hts _ (List.mem_cons_of_mem _ mw_1_80)) (fun _ h9 => h9) rfl dX11_luck_193 ?_
                              refine lv_topi (fun y37 ey37 => ?_)
                              have hF := mi_let hF ey37
                              have by37 : y37.toInt = (xi34 (61 + v7_78.toNatClampNeg) 9).toInt := congrArg Int32.toInt ey37
                              have gy37 : 0 ≤ y37.toInt ∧ y37.toInt ≤ 1 := by rw [ey37]; exact rX_letter_9 ok (61 + v7_78.toNatClampNeg) hk36.1 hk36.2
                              refine lv_if_eq (tgt := 203) hx hb dX11_luck_196 (by decide) (fun c_38 => ?_) (fun c_38 => ?_)
                              · have hF := (if_pos c_38).symm.trans hF
                                have c_38 : y37.toInt = 0 := il_eq c_38
                                refine lv_iconst (v := 0) hx hb dX11_luck_203 (by decide) ?_
                                refine lv_iadd hx hb dX11_luck_204 ?_
                                refine lv_topi (fun t39 et39 => ?_)
                                have hF := mi_let hF et39
                                refine lv_istore (lv' := [(5, .int t39), (3, .long l29), (9, .int r25), (8, .int r24), (7, .int v7_78), (6, .int v6_69), (0, .ref (ad 0)), (1, .int vn), (2, .int vs)]) hx hb dX11_luck_205 hl (by decide) rfl (fun ls hl => ?_)
                                refine lv_iinc (v := (v7_78 + 1)) (lv' := [(7, .int (v7_78 + 1)), (5, .int t39), (3, .long l29), (9, .int r25), (8, .int r24), (6, .int v6_69), (0, .ref (ad 0)), (1, .int vn), (2, .int vs)]) hx hb dX11_luck_207 hl (k := 4) rfl rfl (by decide) rfl (fun ls hl => ?_)
                                refine loc_gen (P := fun w9 => lv_has ls 10 [(7, .int w9), (5, .int t39), (3, .long l29), (9, .int r25), (8, .int r24), (6, .int v6_69), (0, .ref (ad 0)), (1, .int vn), (2, .int vs)]) (v7_78 + 1) hl (fun w40 hw40 hl => ?_)
                                have hl : lv_has ls 10 [(7, .int w40), (5, .int t39), (3, .long l29), (9, .int r25), (8, .int r24), (6, .int v6_69), (0, .ref (ad 0)), (1, .int vn), (2, .int vs)] := hl
                                have hF := mi_let hF hw40.symm
                                have aw40 : w40.toInt = v7_78.toInt + 1 := by rw [← hw40]; exact va1 (by omega)
                                refine lv_goto (tgt := 78) hx hb dX11_luck_210 (by decide) ?_
                                exact ih78 (l29) (t39) (w40) xi34 _ _ _ (by first | exact ms_lt hm_78 (by omega) (by omega) | omega) (by omega)  ok hP  kp35 hF hS (lv_sub hl [0, 5, 1, 2, 6, 7, 8] rfl)
                              · have hF := (if_neg c_38).symm.trans hF
                                have c_38 : ¬ y37.toInt = 0 := il_ne c_38
                                refine lv_iconst (v := 1) hx hb dX11_luck_199 (by decide) ?_
                                refine lv_goto (tgt := 204) hx hb dX11_luck_200 (by decide) ?_
                                refine lv_iadd hx hb dX11_luck_204 ?_
                                refine lv_topi (fun t41 et41 => ?_)
                                have hF := mi_let hF et41
                                refine lv_istore (lv' := [(5, .int t41), (3, .long l29), (9, .int r25), (8, .int r24), (7, .int v7_78), (6, .int v6_69), (0, .ref (ad 0)), (1, .int vn), (2, .int vs)]) hx hb dX11_luck_205 hl (by decide) rfl (fun ls hl => ?_)
                                refine lv_iinc (v := (v7_78 + 1)) (lv' := [(7, .int (v7_78 + 1)), (5, .int t41), (3, .long l29), (9, .int r25), (8, .int r24), (6, .int v6_69), (0, .ref (ad 0)), (1, .int vn), (2, .int vs)]) hx hb dX11_luck_207 hl (k := 4) rfl rfl (by decide) rfl (fun ls hl => ?_)
                                refine loc_gen (P := fun w9 => lv_has ls 10 [(7, .int w9), (5, .int t41), (3, .long l29), (9, .int r25), (8, .int r24), (6, .int v6_69), (0, .ref (ad 0)), (1, .int vn), (2, .int vs)]) (v7_78 + 1) hl (fun w42 hw42 hl => ?_)
                                have hl : lv_has ls 10 [(7, .int w42), (5, .int t41), (3, .long l29), (9, .int r25), (8, .int r24), (6, .int v6_69), (0, .ref (ad 0)), (1, .int vn), (2, .int vs)] := hl
                                have hF := mi_let hF hw42.symm
                                have aw42 : w42.toInt = v7_78.toInt + 1 := by rw [← hw42]; exact va1 (by omega)
                                refine lv_goto (tgt := 78) hx hb dX11_luck_210 (by decide) ?_
                                exact ih78 (l29) (t41) (w42) xi34 _ _ _ (by first | exact ms_lt hm_78 (by omega) (by omega) | omega) (by omega)  ok hP  kp35 hF hS (lv_sub hl [0, 5, 1, 2, 6, 7, 8] rfl)
                          · have hF := (if_pos c_26).symm.trans hF
                            have c_26 : r25.toInt = 0 := il_eq c_26
                            refine lv_goto (tgt := 207) hx hb dX11_luck_127 (by decide) ?_
                            refine lv_iinc (v := (v7_78 + 1)) (lv' := [(7, .int (v7_78 + 1)), (9, .int r25), (8, .int r24), (6, .int v6_69), (5, .int v5_78), (3, .long v3_78), (0, .ref (ad 0)), (1, .int vn), (2, .int vs)]) hx hb dX11_luck_207 hl (k := 2) rfl rfl (by decide) rfl (fun ls hl => ?_)
                            refine loc_gen (P := fun w9 => lv_has ls 10 [(7, .int w9), (9, .int r25), (8, .int r24), (6, .int v6_69), (5, .int v5_78), (3, .long v3_78), (0, .ref (ad 0)), (1, .int vn), (2, .int vs)]) (v7_78 + 1) hl (fun w43 hw43 hl => ?_)
                            have hl : lv_has ls 10 [(7, .int w43), (9, .int r25), (8, .int r24), (6, .int v6_69), (5, .int v5_78), (3, .long v3_78), (0, .ref (ad 0)), (1, .int vn), (2, .int vs)] := hl
                            have hF := mi_let hF hw43.symm
                            have aw43 : w43.toInt = v7_78.toInt + 1 := by rw [← hw43]; exact va1 (by omega)
                            refine lv_goto (tgt := 78) hx hb dX11_luck_210 (by decide) ?_
                            exact ih78 (v3_78) (v5_78) (w43) nu78_ _ _ _ (by first | exact ms_lt hm_78 (by omega) (by omega) | omega) (by omega)  ok hP  kq78_0 hF hS (lv_sub hl [0, 3, 4, 5, 6, 7, 8] rfl)
                    exact loop78 7 (v3_69) (v5_69) (0) nu69_ _ _ _ (by have h82 : (0 : Int32).toInt = 0 := rfl; omega) (by have h80 : (0 : Int32).toInt = 0 := rfl; exact ⟨by omega, by omega⟩)  ok hP  kq69_0 hF hS hl
              exact loop69 43 (l12) (0) (0) mu _ _ _ (by have h81 : (0 : Int32).toInt = 0 := rfl; have h82 : (0 : Int32).toInt = 0 := rfl; omega) (by have h80 : (0 : Int32).toInt = 0 := rfl; exact ⟨by omega, by omega⟩)  ok hP  (fun _ _ _ => rfl) hF hS hl
            · have hF := (if_neg c_11).symm.trans hF
              have c_11 : 99 < t10.toInt := il_nle c_11
              refine lv_bipush (v := (-2)) hx hb dX11_luck_57 (by decide) ?_
              exact W.iret (v := (-2)) hx hb hr (fun t ht hW => ⟨⟨(-2), mu, rfl, ⟨hF.trans hfz.symm, ok, trivial, (fun _ _ _ => rfl)⟩, by first | (subst ht; exact hP) | (rw [ht]; exact hP) | (show va_P (dC, dI) vwCl (wR 157 ad (EX cs ad) mu) t.heap; rw [ht]; exact hP)⟩, hS.F ht⟩) hS.2.2 dX11_luck_59
          · have hF := (if_pos c_8).symm.trans hF
            have c_8 : y7.toInt = 0 := il_eq c_8
            refine lv_bipush (v := (-4)) hx hb dX11_luck_37 (by decide) ?_
            exact W.iret (v := (-4)) hx hb hr (fun t ht hW => ⟨⟨(-4), mu, rfl, ⟨hF.trans hfz.symm, ok, trivial, (fun _ _ _ => rfl)⟩, by first | (subst ht; exact hP) | (rw [ht]; exact hP) | (show va_P (dC, dI) vwCl (wR 157 ad (EX cs ad) mu) t.heap; rw [ht]; exact hP)⟩, hS.F ht⟩) hS.2.2 dX11_luck_39
        · have hF := (if_neg c_6).symm.trans hF
          have c_6 : 0 ≤ t5.toInt := il_nlt c_6
          refine lv_iconst (v := (-1)) hx hb dX11_luck_25 (by decide) ?_
          exact W.iret (v := (-1)) hx hb hr (fun t ht hW => ⟨⟨(-1), mu, rfl, ⟨hF.trans hfz.symm, ok, trivial, (fun _ _ _ => rfl)⟩, by first | (subst ht; exact hP) | (rw [ht]; exact hP) | (show va_P (dC, dI) vwCl (wR 157 ad (EX cs ad) mu) t.heap; rw [ht]; exact hP)⟩, hS.F ht⟩) hS.2.2 dX11_luck_26
