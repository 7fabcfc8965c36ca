set_option maxHeartbeats 4000000 in
set_option maxRecDepth 100000 in
/-- qx_upper -/
theorem qx_upper (l : Launch) (dC : Nat → ClassId) (dI : Nat → Nat → Nat) (cs : Nat → ClassId) (ad : Nat → Nat) (mu : Nat → Nat → Int32) (ok : okR loX hiX mu) (H : Heap) (hP : va_P (dC, dI) vwCl (wR 157 ad (EX cs ad) mu) H) (hD0 : va_D (fun _ => True) (wR 157 ad (EX cs ad) mu)) : Met l yX11_upper (wU yX11_upper cX11_upper 3 (some .long)) ({ frames := 2, cells := 0, slots := 0, locals := 53 }) (va_Pc [.ref (ad 0)] (sz_P (dC, dI) vwCl (tyW cs) H)) (va_Ql (fun (z : Int64) (xi : Nat → Nat → Int32) => (z, xi) = F_qx_upper mu ∧ okR loX hiX xi ∧ (True) ∧ (∀ k f : Nat, Nat.testBit 510 (gpX k f) = true → xi k f = mu k f)) (fun xi t => va_P (dC, dI) vwCl (wR 157 ad (EX cs ad) xi) t.heap) (va_A (wR 157 ad (EX cs ad) mu) H.size)) 0 0 (va_A (wR 157 ad (EX cs ad) mu) H.size) := by
  refine Met.ofW (cc := cX11_upper) (maxL := 3) (ret := (some .long)) (by decide) rfl ?_
  intro p e s m args below meth c s₁ B hml hv
  obtain ⟨rfl, hh, hK, hz⟩ := hv
  have hx := B.exec
  have hb := B.bytes
  have hr := B.returns
  have hts := atoms_spec (ws := (wU yX11_upper cX11_upper 3 (some .long))) B.pre
  have hown : s.vm.findClass RX11 = some m.cls := findClass_of_methodNamed B.named
  have hlocks := B.notSynchronized
  subst hh
  have hD := hD0.self (sz := s.heap.size)
  have hA : ∀ q : Nat, s.heap.size ≤ q → (va_A (wR 157 ad (EX cs ad) mu) s.heap.size) q := fun q h => Or.inr h
  have hS : va_S (va_A (wR 157 ad (EX cs ad) mu) s.heap.size) s.heap s.heap [] := va_S.rf
  have hl := lv_entry ([.ref (ad 0)]) (n := 3) (Nat.le_of_ble_eq_true rfl)
  rw [lg_entry_eq]
  generalize (lg_sl ([.ref (ad 0)]) ++ List.replicate (3 - (lg_sl ([.ref (ad 0)])).length) Slot.unset).toArray = ls at hl ⊢
  have hl : lv_has ls 3 [(0, .ref (ad 0))] := hl
  obtain ⟨fz, hfz⟩ : ∃ z, F_qx_upper mu = z := ⟨_, rfl⟩
  have hF := hfz
  unfold F_qx_upper at hF
  refine lv_aload_n hx hb dX11_upper_0 rfl (lv_at hl 0 rfl) ?_
  refine va_get (D := (dC, dI)) (ci := 11) (v := .ref (ad 4)) (C := RX11) (T := TX11) (N := 11) hx hb hts inG11 hown hK hP 0 (gX_0 cs ad mu) rfl 3 (by decide) (hts _ (List.mem_cons_of_mem _ mw_2_161)) (fun _ h9 => h9) rfl dX11_upper_1 ?_
  refine cr_l (va_runV (As := []) (rest := []) ⟨hx, hb, hml, hown, hts⟩ (sx_richestPurse l dC dI cs ad mu ok s.heap hP) (cwV 0 hts (wU_V mw_4_207 mw_4_204 mw_4_205 mw_4_206 mw_1_2) rfl rfl rfl (by decide +kernel) ⟨Nat.le_of_ble_eq_true rfl, Nat.le_of_ble_eq_true rfl⟩) ⟨sz_c, va_recv hK hP (ci := 10) (q0 := 4) rfl (gX_4 cs ad mu), sz_m hK hz⟩ rfl rfl hl.1 rfl (lv_room (Nat.le_of_ble_eq_true rfl)) dX11_upper_4 ⟨Nat.zero_le _, Nat.zero_le _⟩) hS (fun r1 hw1 locs hS => ?_)
  obtain ⟨hfe1, hw1⟩ := hw1
  have hF := mi_let hF hfe1
  refine lv_aload_n hx hb dX11_upper_7 rfl (lv_at hl 0 rfl) ?_
  refine va_get (D := (dC, dI)) (ci := 11) (v := .ref (ad 4)) (C := RX11) (T := TX11) (N := 11) hx hb hts inG11 hown hK hP 0 (gX_0 cs ad mu) rfl 3 (by decide) (hts _ (List.mem_cons_of_mem _ mw_2_161)) (fun _ h9 => h9) rfl dX11_upper_8 ?_
  refine cr_l (va_runV (As := []) (rest := [.long r1]) ⟨hx, hb, hml, hown, hts⟩ (sx_allPurses l dC dI cs ad mu ok s.heap hP) (cwV 0 hts (wU_V mw_4_214 mw_4_211 mw_4_212 mw_4_213 mw_1_2) rfl rfl rfl (by decide +kernel) ⟨Nat.le_of_ble_eq_true rfl, Nat.le_of_ble_eq_true rfl⟩) ⟨sz_c, va_recv hK hP (ci := 10) (q0 := 4) rfl (gX_4 cs ad mu), sz_m hK hz⟩ rfl rfl hl.1 rfl (lv_room (Nat.le_of_ble_eq_true rfl)) dX11_upper_11 ⟨Nat.zero_le _, Nat.zero_le _⟩) hS (fun r2 hw2 locs hS => ?_)
  obtain ⟨hfe2, hw2⟩ := hw2
  have hF := mi_let hF hfe2
  refine cr_l (va_runS (As := [.long r1, .long r2]) (rest := []) ⟨hx, hb, hml, hown, hts⟩ (sx_commonDivisor l dC dI (tyW cs) s.heap r1 r2) (va_cwS 2 hts (wU_S mw_4_217 mw_4_215 mw_4_216 mw_1_1) rfl rfl rfl (by decide +kernel) ⟨Nat.le_of_ble_eq_true rfl, Nat.le_of_ble_eq_true rfl⟩) ⟨sz_c, sz_m hK hz⟩ rfl rfl hl.1 rfl (lv_room (Nat.le_of_ble_eq_true rfl)) dX11_upper_14 ⟨Nat.zero_le _, Nat.zero_le _⟩) hS (fun r3 hw3 locs hS => ?_)
  obtain ⟨hfe3, hw3⟩ := hw3
  have hF := mi_let hF hfe3
  refine lv_lstore_n (lv' := [(1, .long r3), (0, .ref (ad 0))]) hx hb dX11_upper_17 rfl hl (by decide) rfl (fun ls hl => ?_)
  refine lv_lload_n hx hb dX11_upper_18 rfl (lv_at hl 0 rfl) ?_
  refine lv_lconst (v := 0) hx hb dX11_upper_19 (by decide) ?_
  refine W.lcmp hx hb dX11_upper_20 ?_
  refine lv_topi (fun t4 et4 => ?_)
  have hF := mi_let hF et4
  refine lv_if_ne (tgt := 28) hx hb dX11_upper_21 (by decide) (fun c_5 => ?_) (fun c_5 => ?_)
  · have hF := (if_neg c_5).symm.trans hF
    have c_5 : ¬ t4.toInt = 0 := il_ne c_5
    refine lv_aload_n hx hb dX11_upper_28 rfl (lv_at hl 1 rfl) ?_
    refine va_get (D := (dC, dI)) (ci := 11) (v := .ref (ad 4)) (C := RX11) (T := TX11) (N := 11) hx hb hts inG11 hown hK hP 0 (gX_0 cs ad mu) rfl 3 (by decide) (hts _ (List.mem_cons_of_mem _ mw_2_161)) (fun _ h9 => h9) rfl dX11_upper_29 ?_
    refine cr_l (va_runV (As := []) (rest := []) ⟨hx, hb, hml, hown, hts⟩ (sx_richestPurse l dC dI cs ad mu ok s.heap hP) (cwV 0 hts (wU_V mw_4_207 mw_4_204 mw_4_205 mw_4_206 mw_1_2) rfl rfl rfl (by decide +kernel) ⟨Nat.le_of_ble_eq_true rfl, Nat.le_of_ble_eq_true rfl⟩) ⟨sz_c, va_recv hK hP (ci := 10) (q0 := 4) rfl (gX_4 cs ad mu), sz_m hK hz⟩ rfl rfl hl.1 rfl (lv_room (Nat.le_of_ble_eq_true rfl)) dX11_upper_32 ⟨Nat.zero_le _, Nat.zero_le _⟩) hS (fun r6 hw6 locs hS => ?_)
    obtain ⟨hfe6, hw6⟩ := hw6
    have hF := mi_let hF hfe6
    refine lv_lload_n hx hb dX11_upper_35 rfl (lv_at hl 0 rfl) ?_
    refine lv_ldiv hx hb dX11_upper_36 (fun h9 => absurd (show t4.toInt = 0 by rw [et4, h9]; decide) c_5) ?_
    refine lv_topl (fun l7 el7 => ?_)
    have hF := mi_let hF el7
    exact W.lret (v := l7) hx hb hr (fun t ht hW => ⟨⟨l7, mu, rfl, ⟨hF.trans hfz.symm, ok, trivial, (fun _ _ _ => rfl)⟩, by first | (subst ht; exact hP) | (rw [ht]; exact hP) | (show va_P (dC, dI) vwCl (wR 157 ad (EX cs ad) mu) t.heap; rw [ht]; exact hP)⟩, hS.F ht⟩) hS.2.2 dX11_upper_37
  · have hF := (if_pos c_5).symm.trans hF
    have c_5 : t4.toInt = 0 := il_eq c_5
    refine lv_lconst (v := 0) hx hb dX11_upper_24 (by decide) ?_
    refine lv_goto (tgt := 37) hx hb dX11_upper_25 (by decide) ?_
    exact W.lret (v := 0) hx hb hr (fun t ht hW => ⟨⟨0, mu, rfl, ⟨hF.trans hfz.symm, ok, trivial, (fun _ _ _ => rfl)⟩, by first | (subst ht; exact hP) | (rw [ht]; exact hP) | (show va_P (dC, dI) vwCl (wR 157 ad (EX cs ad) mu) t.heap; rw [ht]; exact hP)⟩, hS.F ht⟩) hS.2.2 dX11_upper_37
