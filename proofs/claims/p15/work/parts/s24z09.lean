set_option maxHeartbeats 4000000 in
set_option maxRecDepth 100000 in
/-- qx_fake -/
theorem qx_fake (l : Launch) (dC : Nat → ClassId) (dI : Nat → Nat → Nat) (cs : Nat → ClassId) (ad : Nat → Nat) (mu : Nat → Nat → Int32) (ok : okR loX hiX mu) (H : Heap) (hP : va_P (dC, dI) vwCl (wR 157 ad (EX cs ad) mu) H) (hD0 : va_D (fun _ => True) (wR 157 ad (EX cs ad) mu)) (vx : Int32) (vy : Int32) (vw : Int32) : Met l yX11_fake (wU yX11_fake cX11_fake 4 (some .int)) ({ frames := 11, cells := 0, slots := 0, locals := 319 }) (va_Pc [.ref (ad 0), .int vx, .int vy, .int vw] (sz_P (dC, dI) vwCl (tyW cs) H)) (va_Qi (fun (z : Int32) (xi : Nat → Nat → Int32) => okR loX hiX xi ∧ (True) ∧ (∀ k f : Nat, Nat.testBit 510 (gpX k f) = true → xi k f = mu k f)) (fun xi t => va_P (dC, dI) vwCl (wR 157 ad (EX cs ad) xi) t.heap) (va_A (wR 157 ad (EX cs ad) mu) H.size)) 0 0 (va_A (wR 157 ad (EX cs ad) mu) H.size) := by
  refine Met.ofW (cc := cX11_fake) (maxL := 4) (ret := (some .int)) (by decide) rfl ?_
  intro p e s m args below meth c s₁ B hml hv
  obtain ⟨rfl, hh, hK, hz⟩ := hv
  have hx := B.exec
  have hb := B.bytes
  have hr := B.returns
  have hts := atoms_spec (ws := (wU yX11_fake cX11_fake 4 (some .int))) B.pre
  have hown : s.vm.findClass RX11 = some m.cls := findClass_of_methodNamed B.named
  have hlocks := B.notSynchronized
  subst hh
  have hD := hD0.self (sz := s.heap.size)
  have hA : ∀ q : Nat, s.heap.size ≤ q → (va_A (wR 157 ad (EX cs ad) mu) s.heap.size) q := fun q h => Or.inr h
  have hS : va_S (va_A (wR 157 ad (EX cs ad) mu) s.heap.size) s.heap s.heap [] := va_S.rf
  have hl := lv_entry ([.ref (ad 0), .int vx, .int vy, .int vw]) (n := 4) (Nat.le_of_ble_eq_true rfl)
  rw [lg_entry_eq]
  generalize (lg_sl ([.ref (ad 0), .int vx, .int vy, .int vw]) ++ List.replicate (4 - (lg_sl ([.ref (ad 0), .int vx, .int vy, .int vw])).length) Slot.unset).toArray = ls at hl ⊢
  have hl : lv_has ls 4 [(0, .ref (ad 0)), (1, .int vx), (2, .int vy), (3, .int vw)] := hl
  refine lv_aload_n hx hb dX11_fake_0 rfl (lv_at hl 0 rfl) ?_
  refine lv_iload_n hx hb dX11_fake_1 rfl (lv_at hl 1 rfl) ?_
  refine lv_iload_n hx hb dX11_fake_2 rfl (lv_at hl 2 rfl) ?_
  refine cr_i (va_runV (As := [.int vx, .int vy]) (rest := []) ⟨hx, hb, hml, hown, hts⟩ (sx_isPair l dC dI cs ad mu ok s.heap hP vx vy) (cwV 2 hts (wU_V mw_3_145 mw_3_142 mw_3_144 mw_0_7 mw_1_1) rfl rfl rfl (by decide +kernel) ⟨Nat.le_of_ble_eq_true rfl, Nat.le_of_ble_eq_true rfl⟩) ⟨sz_c, va_recv hK hP (ci := 11) (q0 := 0) rfl (gX_0 cs ad mu), sz_m hK hz⟩ rfl rfl hl.1 rfl (lv_room (Nat.le_of_ble_eq_true rfl)) dX11_fake_3 ⟨Nat.zero_le _, Nat.zero_le _⟩) hS (fun r1 hw1 locs hS => ?_)
  obtain ⟨hfe1, hw1⟩ := hw1
  rcases hw1 with ⟨rfl, f1⟩ | ⟨rfl, f1⟩
  · have f1 : 0 ≤ vx.toInt ∧ vx.toInt < (mu 4 6).toInt ∧ 0 ≤ vy.toInt ∧ vy.toInt < (mu 4 6).toInt ∧ (mu 4 6).toInt ≤ 7 := f1
    refine lv_if_eq (tgt := 19) hx hb dX11_fake_6 (by decide) (fun c => absurd c (by decide)) (fun _ => ?_)
    refine lv_iload_n hx hb dX11_fake_9 rfl (lv_at hl 3 rfl) ?_
    refine lv_if_lt (tgt := 19) hx hb dX11_fake_10 (by decide) (fun c_2 => ?_) (fun c_2 => ?_)
    · have c_2 : vw.toInt < 0 := il_lt c_2
      refine lv_iconst (v := (-1)) hx hb dX11_fake_19 (by decide) ?_
      exact W.iret (v := (-1)) hx hb hr (fun t ht hW => ⟨⟨(-1), mu, rfl, ⟨ok, trivial, (fun _ _ _ => rfl)⟩, by first | (subst ht; exact hP) | (rw [ht]; exact hP) | (show va_P (dC, dI) vwCl (wR 157 ad (EX cs ad) mu) t.heap; rw [ht]; exact hP)⟩, hS.F ht⟩) hS.2.2 dX11_fake_20
    · have c_2 : 0 ≤ vw.toInt := il_nlt c_2
      refine lv_iload_n hx hb dX11_fake_13 rfl (lv_at hl 3 rfl) ?_
      refine lv_bipush (v := 99) hx hb dX11_fake_14 (by decide) ?_
      refine lv_icmp_le (tgt := 21) hx hb dX11_fake_16 (by decide) (fun c_3 => ?_) (fun c_3 => ?_)
      · have c_3 : vw.toInt ≤ 99 := il_le c_3
        refine lv_aload_n hx hb dX11_fake_21 rfl (lv_at hl 0 rfl) ?_
        refine va_get (D := (dC, dI)) (ci := 11) (v := .ref (ad 32)) (C := RX11) (T := TX11) (N := 11) hx hb hts inG11 hown hK hP 0 (gX_0 cs ad mu) rfl 6 (by decide) (hts _ (List.mem_cons_of_mem _ mw_2_164)) (fun _ h9 => h9) rfl dX11_fake_22 ?_
        refine lv_aload_n hx hb dX11_fake_25 rfl (lv_at hl 0 rfl) ?_
        refine va_get (D := (dC, dI)) (ci := 11) (v := .ref (ad 4)) (C := RX11) (T := TX11) (N := 11) hx hb hts inG11 hown hK hP 0 (gX_0 cs ad mu) rfl 3 (by decide) (hts _ (List.mem_cons_of_mem _ mw_2_161)) (fun _ h9 => h9) rfl dX11_fake_26 ?_
        refine lv_iload_n hx hb dX11_fake_29 rfl (lv_at hl 1 rfl) ?_
        refine lv_iload_n hx hb dX11_fake_30 rfl (lv_at hl 2 rfl) ?_
        have hFc := fr_all (wR_D mu hD) hS hA
        refine va_callv (va_runV (As := [.ref (ad 4), .int vx, .int vy]) (rest := []) ⟨hx, hb, hml, hown, hts⟩ (sx_walkNew l dC dI cs ad mu ok s.heap hP ((wR_D mu hD).weaken (fun _ _ _ _ => trivial)) vx vy (by omega)) (cwV 3 hts (wU_V mw_4_142 mw_4_139 mw_4_140 mw_4_141 mw_1_8) rfl rfl rfl (by decide +kernel) ⟨Nat.le_of_ble_eq_true rfl, Nat.le_of_ble_eq_true rfl⟩) ⟨sz_c, va_recv hK hP (ci := 5) (q0 := 32) rfl (gX_32 cs ad mu), sz_m hK hz⟩ rfl rfl hl.1 rfl (lv_room (Nat.le_of_ble_eq_true rfl)) dX11_fake_31 ⟨Nat.zero_le _, Nat.zero_le _⟩) hS (fun q _ h => hFc q h) hFc (fun xi4 t H4 locs ht hvm hw4 hB hz1 hk1 hS => ?_)
        have hP : va_P (dC, dI) vwCl (wR 157 ad (EX cs ad) xi4) H4 := by rw [← ht]; exact hB
        obtain ⟨ok, hw4, hkp4_0⟩ := hw4
        have kp5 : (∀ k f : Nat, Nat.testBit 510 (gpX k f) = true → xi4 k f = mu k f) := kp_t hkp4_0 (by decide) (fun _ _ _ => rfl)
        refine lv_aload_n hx hb dX11_fake_34 rfl (lv_at hl 0 rfl) ?_
        refine va_get (D := (dC, dI)) (ci := 11) (v := .ref (ad 32)) (C := RX11) (T := TX11) (N := 11) hx hb hts inG11 hown hK hP 0 (gX_0 cs ad xi4) rfl 6 (by decide) (hts _ (List.mem_cons_of_mem _ mw_2_164)) (fun _ h9 => h9) rfl dX11_fake_35 ?_
        refine va_get (D := (dC, dI)) (ci := 5) (v := .ref (ad 55)) (C := RX5) (T := TX5) (N := 15) hx hb hts inG5 hown hK hP 32 (gX_32 cs ad xi4) rfl 3 (by decide) (hts _ (List.mem_cons_of_mem _ mw_2_50)) (fun _ h9 => h9) rfl dX11_fake_38 ?_
        refine va_get (D := (dC, dI)) (ci := 0) (v := .int (xi4 55 3)) (C := RX0) (T := TX0) (N := 4) hx hb hts inG0 hown hK hP 55 (gX_55 cs ad xi4) rfl 3 (by decide) (hts _ (List.mem_cons_of_mem _ mw_2_36)) (fun _ h9 => h9) rfl dX11_fake_41 ?_
        refine lv_topi (fun y6 ey6 => ?_)
        have by6 : y6.toInt = (xi4 55 3).toInt := congrArg Int32.toInt ey6
        have gy6 : 0 ≤ y6.toInt ∧ y6.toInt ≤ 1 := by rw [ey6]; exact rX_55_3 ok
        refine lv_if_eq (tgt := 74) hx hb dX11_fake_44 (by decide) (fun c_7 => ?_) (fun c_7 => ?_)
        · have c_7 : y6.toInt = 0 := il_eq c_7
          refine lv_iconst (v := 0) hx hb dX11_fake_74 (by decide) ?_
          exact W.iret (v := 0) hx hb hr (fun t ht hW => ⟨⟨0, xi4, rfl, ⟨ok, trivial, kp5⟩, by first | (subst ht; exact hP) | (rw [ht]; exact hP) | (show va_P (dC, dI) vwCl (wR 157 ad (EX cs ad) xi4) t.heap; rw [ht]; exact hP)⟩, hS.F ht⟩) hS.2.2 dX11_fake_75
        · have c_7 : ¬ y6.toInt = 0 := il_ne c_7
          refine lv_aload_n hx hb dX11_fake_47 rfl (lv_at hl 0 rfl) ?_
          refine va_get (D := (dC, dI)) (ci := 11) (v := .ref (ad 32)) (C := RX11) (T := TX11) (N := 11) hx hb hts inG11 hown hK hP 0 (gX_0 cs ad xi4) rfl 6 (by decide) (hts _ (List.mem_cons_of_mem _ mw_2_164)) (fun _ h9 => h9) rfl dX11_fake_48 ?_
          refine va_get (D := (dC, dI)) (ci := 5) (v := .ref (ad 55)) (C := RX5) (T := TX5) (N := 15) hx hb hts inG5 hown hK hP 32 (gX_32 cs ad xi4) rfl 3 (by decide) (hts _ (List.mem_cons_of_mem _ mw_2_50)) (fun _ h9 => h9) rfl dX11_fake_51 ?_
          refine va_get (D := (dC, dI)) (ci := 0) (v := .int (xi4 55 2)) (C := RX0) (T := TX0) (N := 4) hx hb hts inG0 hown hK hP 55 (gX_55 cs ad xi4) rfl 2 (by decide) (hts _ (List.mem_cons_of_mem _ mw_2_33)) (fun _ h9 => h9) rfl dX11_fake_54 ?_
          refine lv_topi (fun y8 ey8 => ?_)
          have by8 : y8.toInt = (xi4 55 2).toInt := congrArg Int32.toInt ey8
          refine lv_iload_n hx hb dX11_fake_57 rfl (lv_at hl 3 rfl) ?_
          refine lv_icmp_gt (tgt := 74) hx hb dX11_fake_58 (by decide) (fun c_9 => ?_) (fun c_9 => ?_)
          · have c_9 : vw.toInt < y8.toInt := il_lt c_9
            refine lv_iconst (v := 0) hx hb dX11_fake_74 (by decide) ?_
            exact W.iret (v := 0) hx hb hr (fun t ht hW => ⟨⟨0, xi4, rfl, ⟨ok, trivial, kp5⟩, by first | (subst ht; exact hP) | (rw [ht]; exact hP) | (show va_P (dC, dI) vwCl (wR 157 ad (EX cs ad) xi4) t.heap; rw [ht]; exact hP)⟩, hS.F ht⟩) hS.2.2 dX11_fake_75
          · have c_9 : y8.toInt ≤ vw.toInt := il_nlt c_9
            refine lv_aload_n hx hb dX11_fake_61 rfl (lv_at hl 0 rfl) ?_
            refine va_get (D := (dC, dI)) (ci := 11) (v := .ref (ad 32)) (C := RX11) (T := TX11) (N := 11) hx hb hts inG11 hown hK hP 0 (gX_0 cs ad xi4) rfl 6 (by decide) (hts _ (List.mem_cons_of_mem _ mw_2_164)) (fun _ h9 => h9) rfl dX11_fake_62 ?_
            refine va_get (D := (dC, dI)) (ci := 5) (v := .ref (ad 55)) (C := RX5) (T := TX5) (N := 15) hx hb hts inG5 hown hK hP 32 (gX_32 cs ad xi4) rfl 3 (by decide) (hts _ (List.mem_cons_of_mem _ mw_2_50)) (fun _ h9 => h9) rfl dX11_fake_65 ?_
            refine va_get (D := (dC, dI)) (ci := 0) (v := .int (xi4 55 2)) (C := RX0) (T := TX0) (N := 4) hx hb hts inG0 hown hK hP 55 (gX_55 cs ad xi4) rfl 2 (by decide) (hts _ (List.mem_cons_of_mem _ mw_2_33)) (fun _ h9 => h9) rfl dX11_fake_68 ?_
            refine lq_i y8 ey8.symm ?_
            refine lv_goto (tgt := 75) hx hb dX11_fake_71 (by decide) ?_
            exact W.iret (v := y8) hx hb hr (fun t ht hW => ⟨⟨y8, xi4, rfl, ⟨ok, trivial, kp5⟩, by first | (subst ht; exact hP) | (rw [ht]; exact hP) | (show va_P (dC, dI) vwCl (wR 157 ad (EX cs ad) xi4) t.heap; rw [ht]; exact hP)⟩, hS.F ht⟩) hS.2.2 dX11_fake_75
      · have c_3 : 99 < vw.toInt := il_nle c_3
        refine lv_iconst (v := (-1)) hx hb dX11_fake_19 (by decide) ?_
        exact W.iret (v := (-1)) hx hb hr (fun t ht hW => ⟨⟨(-1), mu, rfl, ⟨ok, trivial, (fun _ _ _ => rfl)⟩, by first | (subst ht; exact hP) | (rw [ht]; exact hP) | (show va_P (dC, dI) vwCl (wR 157 ad (EX cs ad) mu) t.heap; rw [ht]; exact hP)⟩, hS.F ht⟩) hS.2.2 dX11_fake_20
  · have f1 : True := f1
    refine lv_if_eq (tgt := 19) hx hb dX11_fake_6 (by decide) (fun _ => ?_) (fun c => absurd (by decide) c)
    refine lv_iconst (v := (-1)) hx hb dX11_fake_19 (by decide) ?_
    exact W.iret (v := (-1)) hx hb hr (fun t ht hW => ⟨⟨(-1), mu, rfl, ⟨ok, trivial, (fun _ _ _ => rfl)⟩, by first | (subst ht; exact hP) | (rw [ht]; exact hP) | (show va_P (dC, dI) vwCl (wR 157 ad (EX cs ad) mu) t.heap; rw [ht]; exact hP)⟩, hS.F ht⟩) hS.2.2 dX11_fake_20
