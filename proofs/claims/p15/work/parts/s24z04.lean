set_option maxHeartbeats 4000000 in
set_option maxRecDepth 100000 in
/-- qx_why -/
theorem qx_why (l : Launch) (dC : Nat → ClassId) (dI : Nat → Nat → Nat) (cs : Nat → ClassId) (ad : Nat → Nat) (mu : Nat → Nat → Int32) (ok : okR loX hiX mu) (H : Heap) (hP : va_P (dC, dI) vwCl (wR 157 ad (EX cs ad) mu) H) (hD0 : va_D (fun _ => True) (wR 157 ad (EX cs ad) mu)) (vk : Int32) : Met l yX11_why (wU yX11_why cX11_why 3 (some .int)) ({ frames := 11, cells := 0, slots := 0, locals := 318 }) (va_Pc [.ref (ad 0), .int vk] (sz_P (dC, dI) vwCl (tyW cs) H)) (va_Qi (fun (z : Int32) (xi : Nat → Nat → Int32) => okR loX hiX xi ∧ (True) ∧ (∀ k f : Nat, Nat.testBit 510 (gpX k f) = true → xi k f = mu k f)) (fun xi t => va_P (dC, dI) vwCl (wR 157 ad (EX cs ad) xi) t.heap) (va_A (wR 157 ad (EX cs ad) mu) H.size)) 0 0 (va_A (wR 157 ad (EX cs ad) mu) H.size) := by
  refine Met.ofW (cc := cX11_why) (maxL := 3) (ret := (some .int)) (by decide) rfl ?_
  intro p e s m args below meth c s₁ B hml hv
  obtain ⟨rfl, hh, hK, hz⟩ := hv
  have hx := B.exec
  have hb := B.bytes
  have hr := B.returns
  have hts := atoms_spec (ws := (wU yX11_why cX11_why 3 (some .int))) B.pre
  have hown : s.vm.findClass RX11 = some m.cls := findClass_of_methodNamed B.named
  have hlocks := B.notSynchronized
  subst hh
  have hD := hD0.self (sz := s.heap.size)
  have hA : ∀ q : Nat, s.heap.size ≤ q → (va_A (wR 157 ad (EX cs ad) mu) s.heap.size) q := fun q h => Or.inr h
  have hS : va_S (va_A (wR 157 ad (EX cs ad) mu) s.heap.size) s.heap s.heap [] := va_S.rf
  have hl := lv_entry ([.ref (ad 0), .int vk]) (n := 3) (Nat.le_of_ble_eq_true rfl)
  rw [lg_entry_eq]
  generalize (lg_sl ([.ref (ad 0), .int vk]) ++ List.replicate (3 - (lg_sl ([.ref (ad 0), .int vk])).length) Slot.unset).toArray = ls at hl ⊢
  have hl : lv_has ls 3 [(0, .ref (ad 0)), (1, .int vk)] := hl
  refine lv_aload_n hx hb dX11_why_0 rfl (lv_at hl 0 rfl) ?_
  refine lv_iload_n hx hb dX11_why_1 rfl (lv_at hl 1 rfl) ?_
  refine lv_iconst (v := 0) hx hb dX11_why_2 (by decide) ?_
  have hFc := fr_all (wR_D mu hD) hS hA
  refine va_calli (va_runV (As := [.int vk, .int 0]) (rest := []) ⟨hx, hb, hml, hown, hts⟩ (sx_refusedRoute l dC dI cs ad mu ok s.heap hP ((wR_D mu hD).weaken (fun _ _ _ _ => trivial)) vk 0) (cwV 2 hts (wU_V mw_4_1 mw_3_238 mw_4_0 mw_0_9 mw_1_1) rfl rfl rfl (by decide +kernel) ⟨Nat.le_of_ble_eq_true rfl, Nat.le_of_ble_eq_true rfl⟩) ⟨sz_c, va_recv hK hP (ci := 11) (q0 := 0) rfl (gX_0 cs ad mu), sz_m hK hz⟩ rfl rfl hl.1 rfl (lv_room (Nat.le_of_ble_eq_true rfl)) dX11_why_3 ⟨Nat.zero_le _, Nat.zero_le _⟩) hS (fun q _ h => hFc q h) hFc (fun r1 xi1 t H1 locs ht hvm hw1 hB hz1 hk1 hS => ?_)
  have hP : va_P (dC, dI) vwCl (wR 157 ad (EX cs ad) xi1) H1 := by rw [← ht]; exact hB
  rcases hw1 with ⟨rfl, hxi1, f1⟩ | ⟨z1, ok, hkp1_0⟩
  · have hP : va_P (dC, dI) vwCl (wR 157 ad (EX cs ad) mu) H1 := by rw [← hxi1]; exact hP
    have f1 : 0 ≤ vk.toInt ∧ vk.toInt < (mu 5 4).toInt ∧ (mu 5 4).toInt ≤ 4 ∧ (0 : Int) = 0 := f1
    refine lv_istore_n (lv' := [(2, .int 0), (0, .ref (ad 0)), (1, .int vk)]) hx hb dX11_why_6 rfl hl (by decide) rfl (fun ls hl => ?_)
    refine lv_iload_n hx hb dX11_why_7 rfl (lv_at hl 0 rfl) ?_
    refine lv_if_eq (tgt := 13) hx hb dX11_why_8 (by decide) (fun _ => ?_) (fun c => absurd (by decide) c)
    refine lv_aload_n hx hb dX11_why_13 rfl (lv_at hl 1 rfl) ?_
    refine va_get (D := (dC, dI)) (ci := 11) (v := .ref (ad 32)) (C := RX11) (T := TX11) (N := 11) hx hb hts inG11 hown hK hP 0 (gX_0 cs ad mu) rfl 6 (by decide) (hts _ (List.mem_cons_of_mem _ mw_2_164)) (fun _ h9 => h9) rfl dX11_why_14 ?_
    refine lv_aload_n hx hb dX11_why_17 rfl (lv_at hl 1 rfl) ?_
    refine va_get (D := (dC, dI)) (ci := 11) (v := .ref (ad 4)) (C := RX11) (T := TX11) (N := 11) hx hb hts inG11 hown hK hP 0 (gX_0 cs ad mu) rfl 3 (by decide) (hts _ (List.mem_cons_of_mem _ mw_2_161)) (fun _ h9 => h9) rfl dX11_why_18 ?_
    refine lv_aload_n hx hb dX11_why_21 rfl (lv_at hl 1 rfl) ?_
    refine va_get (D := (dC, dI)) (ci := 11) (v := .ref (ad 4)) (C := RX11) (T := TX11) (N := 11) hx hb hts inG11 hown hK hP 0 (gX_0 cs ad mu) rfl 3 (by decide) (hts _ (List.mem_cons_of_mem _ mw_2_161)) (fun _ h9 => h9) rfl dX11_why_22 ?_
    refine va_get (D := (dC, dI)) (ci := 10) (v := .ref (ad 5)) (C := RX10) (T := TX10) (N := 8) hx hb hts inG10 hown hK hP 4 (gX_4 cs ad mu) rfl 3 (by decide) (hts _ (List.mem_cons_of_mem _ mw_1_157)) (fun _ h9 => h9) rfl dX11_why_25 ?_
    refine va_get (D := (dC, dI)) (ci := 8) (v := .ref (ad 47)) (C := RX8) (T := TX8) (N := 6) hx hb hts inG8 hown hK hP 5 (gX_5 cs ad mu) rfl 1 (by decide) (hts _ (List.mem_cons_of_mem _ mw_1_112)) (fun _ h9 => h9) rfl dX11_why_28 ?_
    refine lv_iload_n hx hb dX11_why_31 rfl (lv_at hl 2 rfl) ?_
    have hx3 : 0 ≤ vk.toInt ∧ vk.toInt < ((4 : Nat) : Int) := ⟨by omega, by omega⟩
    refine va_aldq hx hb hK hP 47 5 (gX_47 cs ad mu) rfl (show vp_in vk 4 from vi_of hx3.1 hx3.2) dX11_why_32 ?_
    have hk3 : 61 ≤ (61 + vk.toNatClampNeg) ∧ (61 + vk.toNatClampNeg) < 65 := ix_of hx3
    have hk3 : 61 ≤ (61 + vk.toNatClampNeg) ∧ (61 + vk.toNatClampNeg) < 77 := ⟨Nat.le_trans (by decide) hk3.1, Nat.lt_of_lt_of_le hk3.2 (by decide)⟩
    refine lq_v (.ref (ad (61 + vk.toNatClampNeg))) rfl ?_
    have hFc := fr_all (wR_D mu hD) hS hA
    refine va_callv (va_runV (As := [.ref (ad 4), .ref (ad (61 + vk.toNatClampNeg))]) (rest := []) ⟨hx, hb, hml, hown, hts⟩ (sx_walkOf l dC dI cs ad mu ok H1 hP ((wR_D mu hD).weaken (fun _ _ _ _ => trivial)) (61 + vk.toNatClampNeg) hk3.1 hk3.2) (cwV 2 hts (wU_V mw_4_5 mw_4_2 mw_4_3 mw_4_4 mw_1_8) rfl rfl rfl (by decide +kernel) ⟨Nat.le_of_ble_eq_true rfl, Nat.le_of_ble_eq_true rfl⟩) ⟨sz_c, va_recv hK hP (ci := 5) (q0 := 32) rfl (gX_32 cs ad mu), sz_m hK hz⟩ rfl rfl hl.1 rfl (lv_room (Nat.le_of_ble_eq_true rfl)) dX11_why_33 ⟨Nat.zero_le _, Nat.zero_le _⟩) hS (fun q _ h => hFc q h) hFc (fun xi4 t H4 locs ht hvm hw4 hB hz1 hk1 hS => ?_)
    have hP : va_P (dC, dI) vwCl (wR 157 ad (EX cs ad) xi4) H4 := by rw [← ht]; exact hB
    obtain ⟨ok, hw4, hkp4_0⟩ := hw4
    have kp5 : (∀ k f : Nat, Nat.testBit 510 (gpX k f) = true → xi4 k f = mu k f) := kp_t hkp4_0 (by decide) (fun _ _ _ => rfl)
    refine lv_aload_n hx hb dX11_why_36 rfl (lv_at hl 1 rfl) ?_
    refine va_get (D := (dC, dI)) (ci := 11) (v := .ref (ad 32)) (C := RX11) (T := TX11) (N := 11) hx hb hts inG11 hown hK hP 0 (gX_0 cs ad xi4) rfl 6 (by decide) (hts _ (List.mem_cons_of_mem _ mw_2_164)) (fun _ h9 => h9) rfl dX11_why_37 ?_
    refine va_get (D := (dC, dI)) (ci := 5) (v := .int (xi4 32 12)) (C := RX5) (T := TX5) (N := 15) hx hb hts inG5 hown hK hP 32 (gX_32 cs ad xi4) rfl 12 (by decide) (hts _ (List.mem_cons_of_mem _ mw_2_62)) (fun _ h9 => h9) rfl dX11_why_40 ?_
    refine lv_topi (fun y6 ey6 => ?_)
    have by6 : y6.toInt = (xi4 32 12).toInt := congrArg Int32.toInt ey6
    refine lv_if_le (tgt := 48) hx hb dX11_why_43 (by decide) (fun c_7 => ?_) (fun c_7 => ?_)
    · have c_7 : y6.toInt ≤ 0 := il_le c_7
      refine lv_aload_n hx hb dX11_why_48 rfl (lv_at hl 1 rfl) ?_
      refine va_get (D := (dC, dI)) (ci := 11) (v := .ref (ad 32)) (C := RX11) (T := TX11) (N := 11) hx hb hts inG11 hown hK hP 0 (gX_0 cs ad xi4) rfl 6 (by decide) (hts _ (List.mem_cons_of_mem _ mw_2_164)) (fun _ h9 => h9) rfl dX11_why_49 ?_
      refine va_get (D := (dC, dI)) (ci := 5) (v := .int (xi4 32 11)) (C := RX5) (T := TX5) (N := 15) hx hb hts inG5 hown hK hP 32 (gX_32 cs ad xi4) rfl 11 (by decide) (hts _ (List.mem_cons_of_mem _ mw_2_60)) (fun _ h9 => h9) rfl dX11_why_52 ?_
      refine lv_topi (fun y8 ey8 => ?_)
      have by8 : y8.toInt = (xi4 32 11).toInt := congrArg Int32.toInt ey8
      refine lv_if_le (tgt := 60) hx hb dX11_why_55 (by decide) (fun c_9 => ?_) (fun c_9 => ?_)
      · have c_9 : y8.toInt ≤ 0 := il_le c_9
        refine lv_aload_n hx hb dX11_why_60 rfl (lv_at hl 1 rfl) ?_
        refine va_get (D := (dC, dI)) (ci := 11) (v := .ref (ad 32)) (C := RX11) (T := TX11) (N := 11) hx hb hts inG11 hown hK hP 0 (gX_0 cs ad xi4) rfl 6 (by decide) (hts _ (List.mem_cons_of_mem _ mw_2_164)) (fun _ h9 => h9) rfl dX11_why_61 ?_
        refine lv_aload_n hx hb dX11_why_64 rfl (lv_at hl 1 rfl) ?_
        refine va_get (D := (dC, dI)) (ci := 11) (v := .ref (ad 4)) (C := RX11) (T := TX11) (N := 11) hx hb hts inG11 hown hK hP 0 (gX_0 cs ad xi4) rfl 3 (by decide) (hts _ (List.mem_cons_of_mem _ mw_2_161)) (fun _ h9 => h9) rfl dX11_why_65 ?_
        refine cr_i (va_runV (As := [.ref (ad 4)]) (rest := []) ⟨hx, hb, hml, hown, hts⟩ (sx_isLinked l dC dI cs ad xi4 ok H4 hP) (cwV 1 hts (wU_V mw_4_76 mw_4_73 mw_4_74 mw_4_75 mw_1_8) rfl rfl rfl (by decide +kernel) ⟨Nat.le_of_ble_eq_true rfl, Nat.le_of_ble_eq_true rfl⟩) ⟨sz_c, va_recv hK hP (ci := 5) (q0 := 32) rfl (gX_32 cs ad xi4), sz_m hK hz⟩ rfl rfl hl.1 rfl (lv_room (Nat.le_of_ble_eq_true rfl)) dX11_why_68 ⟨Nat.zero_le _, Nat.zero_le _⟩) hS (fun r10 hw10 locs hS => ?_)
        have gr10 : 0 ≤ r10.toInt ∧ r10.toInt ≤ 1 := hw10
        refine lv_if_eq (tgt := 78) hx hb dX11_why_71 (by decide) (fun c_11 => ?_) (fun c_11 => ?_)
        · have c_11 : r10.toInt = 0 := il_eq c_11
          refine lv_iconst (v := 1) hx hb dX11_why_78 (by decide) ?_
          exact W.iret (v := 1) hx hb hr (fun t ht hW => ⟨⟨1, xi4, rfl, ⟨ok, trivial, kp5⟩, by first | (subst ht; exact hP) | (rw [ht]; exact hP) | (show va_P (dC, dI) vwCl (wR 157 ad (EX cs ad) xi4) t.heap; rw [ht]; exact hP)⟩, hS.F ht⟩) hS.2.2 dX11_why_79
        · have c_11 : ¬ r10.toInt = 0 := il_ne c_11
          refine lv_iconst (v := 2) hx hb dX11_why_74 (by decide) ?_
          refine lv_goto (tgt := 79) hx hb dX11_why_75 (by decide) ?_
          exact W.iret (v := 2) hx hb hr (fun t ht hW => ⟨⟨2, xi4, rfl, ⟨ok, trivial, kp5⟩, by first | (subst ht; exact hP) | (rw [ht]; exact hP) | (show va_P (dC, dI) vwCl (wR 157 ad (EX cs ad) xi4) t.heap; rw [ht]; exact hP)⟩, hS.F ht⟩) hS.2.2 dX11_why_79
      · have c_9 : 0 < y8.toInt := il_nle c_9
        refine lv_iconst (v := 3) hx hb dX11_why_58 (by decide) ?_
        exact W.iret (v := 3) hx hb hr (fun t ht hW => ⟨⟨3, xi4, rfl, ⟨ok, trivial, kp5⟩, by first | (subst ht; exact hP) | (rw [ht]; exact hP) | (show va_P (dC, dI) vwCl (wR 157 ad (EX cs ad) xi4) t.heap; rw [ht]; exact hP)⟩, hS.F ht⟩) hS.2.2 dX11_why_59
    · have c_7 : 0 < y6.toInt := il_nle c_7
      refine lv_iconst (v := 0) hx hb dX11_why_46 (by decide) ?_
      exact W.iret (v := 0) hx hb hr (fun t ht hW => ⟨⟨0, xi4, rfl, ⟨ok, trivial, kp5⟩, by first | (subst ht; exact hP) | (rw [ht]; exact hP) | (show va_P (dC, dI) vwCl (wR 157 ad (EX cs ad) xi4) t.heap; rw [ht]; exact hP)⟩, hS.F ht⟩) hS.2.2 dX11_why_47
  · have kp2 : (∀ k f : Nat, Nat.testBit 510 (gpX k f) = true → xi1 k f = mu k f) := kp_t hkp1_0 (by decide) (fun _ _ _ => rfl)
    skip
    refine lv_istore_n (lv' := [(2, .int r1), (0, .ref (ad 0)), (1, .int vk)]) hx hb dX11_why_6 rfl hl (by decide) rfl (fun ls hl => ?_)
    refine lv_iload_n hx hb dX11_why_7 rfl (lv_at hl 0 rfl) ?_
    refine lv_if_eq (tgt := 13) hx hb dX11_why_8 (by decide) (fun c_12 => by have c_12 : r1.toInt = 0 := il_eq c_12; exfalso; omega) (fun c_12 => ?_)
    have c_12 : ¬ r1.toInt = 0 := il_ne c_12
    refine lv_iload_n hx hb dX11_why_11 rfl (lv_at hl 0 rfl) ?_
    exact W.iret (v := r1) hx hb hr (fun t ht hW => ⟨⟨r1, xi1, rfl, ⟨ok, trivial, kp2⟩, by first | (subst ht; exact hP) | (rw [ht]; exact hP) | (show va_P (dC, dI) vwCl (wR 157 ad (EX cs ad) xi1) t.heap; rw [ht]; exact hP)⟩, hS.F ht⟩) hS.2.2 dX11_why_12
