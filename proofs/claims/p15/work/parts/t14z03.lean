set_option maxHeartbeats 4000000 in
set_option maxRecDepth 100000 in
/-- qm_purse -/
theorem qm_purse (l : Launch) (dC : Nat → ClassId) (dI : Nat → Nat → Nat) (cs : Nat → ClassId) (ad : Nat → Nat) (mu : Nat → Nat → Int32) (ok : okR loM hiM mu) (H : Heap) (hP : va_P (dC, dI) vwCl (wR 21 ad (EM cs ad) mu) H) (hD0 : va_D (fun _ => True) (wR 21 ad (EM cs ad) mu)) (vx : Int32) (vv : Int32) : Met l yX12_purse (wU yX12_purse cX12_purse 4 (some .int)) ({ frames := 2, cells := 0, slots := 0, locals := 43 }) (va_Pc [.ref (ad 0), .int vx, .int vv] (sz_P (dC, dI) vwCl (tyM cs) H)) (va_Qi (fun (z : Int32) (xi : Nat → Nat → Int32) => (z, xi) = F_qm_purse mu vx vv ∧ okR loM hiM xi ∧ (True) ∧ (∀ k f : Nat, Nat.testBit 502 (gpM k f) = true → xi k f = mu k f)) (fun xi t => va_P (dC, dI) vwCl (wR 21 ad (EM cs ad) xi) t.heap) (va_A (wR 21 ad (EM cs ad) mu) H.size)) 0 0 (va_A (wR 21 ad (EM cs ad) mu) H.size) := by
  refine Met.ofW (cc := cX12_purse) (maxL := 4) (ret := (some .int)) (by decide) rfl ?_
  intro p e s m args below meth c s₁ B hml hv
  obtain ⟨rfl, hh, hK, hz⟩ := hv
  have hx := B.exec
  have hb := B.bytes
  have hr := B.returns
  have hts := atoms_spec (ws := (wU yX12_purse cX12_purse 4 (some .int))) B.pre
  have hown : s.vm.findClass RX12 = some m.cls := findClass_of_methodNamed B.named
  have hlocks := B.notSynchronized
  subst hh
  have hD := hD0.self (sz := s.heap.size)
  have hA : ∀ q : Nat, s.heap.size ≤ q → (va_A (wR 21 ad (EM cs ad) mu) s.heap.size) q := fun q h => Or.inr h
  have hS : va_S (va_A (wR 21 ad (EM cs ad) mu) s.heap.size) s.heap s.heap [] := va_S.rf
  have hl := lv_entry ([.ref (ad 0), .int vx, .int vv]) (n := 4) (Nat.le_of_ble_eq_true rfl)
  rw [lg_entry_eq]
  generalize (lg_sl ([.ref (ad 0), .int vx, .int vv]) ++ List.replicate (4 - (lg_sl ([.ref (ad 0), .int vx, .int vv])).length) Slot.unset).toArray = ls at hl ⊢
  have hl : lv_has ls 4 [(0, .ref (ad 0)), (1, .int vx), (2, .int vv)] := hl
  obtain ⟨fz, hfz⟩ : ∃ z, F_qm_purse mu vx vv = z := ⟨_, rfl⟩
  have hF := hfz
  unfold F_qm_purse at hF
  refine lv_aload_n hx hb dX12_purse_0 rfl (lv_at hl 0 rfl) ?_
  refine lv_iload_n hx hb dX12_purse_1 rfl (lv_at hl 1 rfl) ?_
  refine cr_i (va_runV (As := [.int vx]) (rest := []) ⟨hx, hb, hml, hown, hts⟩ (sm_isOne l dC dI cs ad mu ok s.heap hP vx) (cwV 1 hts (wU_V mw_6_40 mw_6_37 mw_6_39 mw_0_36 mw_1_13) rfl rfl rfl (by decide +kernel) ⟨Nat.le_of_ble_eq_true rfl, Nat.le_of_ble_eq_true rfl⟩) ⟨sz_c, va_recv hK hP (ci := 12) (q0 := 0) rfl (gM_0 cs ad mu), sz_m hK hz⟩ rfl rfl hl.1 rfl (lv_room (Nat.le_of_ble_eq_true rfl)) dX12_purse_2 ⟨Nat.zero_le _, Nat.zero_le _⟩) hS (fun r1 hw1 locs hS => ?_)
  obtain ⟨hfe1, hw1⟩ := hw1
  rcases hw1 with ⟨rfl, f1⟩ | ⟨rfl, f1⟩
  · have hF := (if_pos hfe1.symm).symm.trans hF
    have f1 : 0 ≤ vx.toInt ∧ vx.toInt < (mu 0 8).toInt ∧ (mu 0 8).toInt ≤ 7 := f1
    refine lv_if_eq (tgt := 19) hx hb dX12_purse_5 (by decide) (fun c => absurd c (by decide)) (fun _ => ?_)
    refine lv_iload_n hx hb dX12_purse_8 rfl (lv_at hl 2 rfl) ?_
    refine lv_iconst (v := 0) hx hb dX12_purse_9 (by decide) ?_
    refine lv_sipush (v := 999) hx hb dX12_purse_10 (by decide) ?_
    refine cr_i (va_runS (As := [.int vv, .int 0, .int 999]) (rest := []) ⟨hx, hb, hml, hown, hts⟩ (sm_in l dC dI (tyM cs) s.heap vv 0 999) (va_cwS 3 hts (wU_S mw_5_189 mw_5_187 mw_5_188 mw_1_13) rfl rfl rfl (by decide +kernel) ⟨Nat.le_of_ble_eq_true rfl, Nat.le_of_ble_eq_true rfl⟩) ⟨sz_c, sz_m hK hz⟩ rfl rfl hl.1 rfl (lv_room (Nat.le_of_ble_eq_true rfl)) dX12_purse_13 ⟨Nat.zero_le _, Nat.zero_le _⟩) hS (fun r2 hw2 locs hS => ?_)
    obtain ⟨hfe2, hw2⟩ := hw2
    rcases hw2 with ⟨rfl, f2⟩ | ⟨rfl, f2⟩
    · have hF := (if_pos hfe2.symm).symm.trans hF
      have f2 : (0 : Int) ≤ vv.toInt ∧ vv.toInt ≤ (999 : Int) := f2
      refine lv_if_ne (tgt := 21) hx hb dX12_purse_16 (by decide) (fun _ => ?_) (fun c => absurd c (by decide))
      refine lv_aload_n hx hb dX12_purse_21 rfl (lv_at hl 0 rfl) ?_
      refine va_get (D := (dC, dI)) (ci := 12) (v := .ref (ad 8)) (C := RX12) (T := TX12) (N := 46) hx hb hts inG12 hown hK hP 0 (gM_0 cs ad mu) rfl 10 (by decide) (hts _ (List.mem_cons_of_mem _ mw_5_51)) (fun _ h9 => h9) rfl dX12_purse_22 ?_
      refine lv_iload_n hx hb dX12_purse_25 rfl (lv_at hl 1 rfl) ?_
      refine va_iald hx hb hK hP 8 0 (gM_8 cs ad mu) rfl (show vp_in vx 7 from vi_of (by omega) (by omega)) dX12_purse_26 ?_
      refine lv_topi (fun y3 ey3 => ?_)
      have hF := mi_let hF ey3
      have by3 : y3.toInt = (mu 8 vx.toNatClampNeg).toInt := congrArg Int32.toInt ey3
      refine lv_istore_n (lv' := [(3, .int y3), (0, .ref (ad 0)), (1, .int vx), (2, .int vv)]) hx hb dX12_purse_27 rfl hl (by decide) rfl (fun ls hl => ?_)
      refine lv_aload_n hx hb dX12_purse_28 rfl (lv_at hl 1 rfl) ?_
      refine va_get (D := (dC, dI)) (ci := 12) (v := .ref (ad 8)) (C := RX12) (T := TX12) (N := 46) hx hb hts inG12 hown hK hP 0 (gM_0 cs ad mu) rfl 10 (by decide) (hts _ (List.mem_cons_of_mem _ mw_5_51)) (fun _ h9 => h9) rfl dX12_purse_29 ?_
      refine lv_iload_n hx hb dX12_purse_32 rfl (lv_at hl 2 rfl) ?_
      refine lv_iload_n hx hb dX12_purse_33 rfl (lv_at hl 3 rfl) ?_
      refine va_iast hx hb hK hP (wR_D mu hD) hS 8 0 (gM_8 cs ad mu) rfl (show vp_in vx 7 from vi_of (by omega) (by omega)) dX12_purse_34 (fun H locs hP _ hS => ?_)
      refine wr_gen (upd (mu 8) vx.toNatClampNeg vv) hP (rfl) (fun nu4 hn4 hP => ?_)
      have hF := mi_let hF hn4.symm
      have ok := tM_8_s ok vx.toNatClampNeg hn4
      have kp5 : (∀ k f : Nat, Nat.testBit 502 (gpM k f) = true → nu4 k f = mu k f) := kp_c 3 hn4 (fun _ => rfl) (by decide) (fun _ _ _ => rfl)
      refine lv_iload_n hx hb dX12_purse_35 rfl (lv_at hl 0 rfl) ?_
      exact W.iret (v := y3) hx hb hr (fun t ht hW => ⟨⟨y3, nu4, rfl, ⟨hF.trans hfz.symm, ok, trivial, kp5⟩, by first | (subst ht; exact hP) | (rw [ht]; exact hP) | (show va_P (dC, dI) vwCl (wR 21 ad (EM cs ad) nu4) t.heap; rw [ht]; exact hP)⟩, hS.F ht⟩) hS.2.2 dX12_purse_36
    · have hF := (if_neg (fun h => absurd (hfe2.trans h) (by decide))).symm.trans hF
      have f2 : vv.toInt < (0 : Int) ∨ (999 : Int) < vv.toInt := f2
      refine lv_if_ne (tgt := 21) hx hb dX12_purse_16 (by decide) (fun c => absurd (by decide) c) (fun _ => ?_)
      refine lv_iconst (v := (-1)) hx hb dX12_purse_19 (by decide) ?_
      exact W.iret (v := (-1)) hx hb hr (fun t ht hW => ⟨⟨(-1), mu, rfl, ⟨hF.trans hfz.symm, ok, trivial, (fun _ _ _ => rfl)⟩, by first | (subst ht; exact hP) | (rw [ht]; exact hP) | (show va_P (dC, dI) vwCl (wR 21 ad (EM cs ad) mu) t.heap; rw [ht]; exact hP)⟩, hS.F ht⟩) hS.2.2 dX12_purse_20
  · have hF := (if_neg (fun h => absurd (hfe1.trans h) (by decide))).symm.trans hF
    have f1 : vx.toInt < 0 ∨ (mu 0 8).toInt ≤ vx.toInt := f1
    refine lv_if_eq (tgt := 19) hx hb dX12_purse_5 (by decide) (fun _ => ?_) (fun c => absurd (by decide) c)
    refine lv_iconst (v := (-1)) hx hb dX12_purse_19 (by decide) ?_
    exact W.iret (v := (-1)) hx hb hr (fun t ht hW => ⟨⟨(-1), mu, rfl, ⟨hF.trans hfz.symm, ok, trivial, (fun _ _ _ => rfl)⟩, by first | (subst ht; exact hP) | (rw [ht]; exact hP) | (show va_P (dC, dI) vwCl (wR 21 ad (EM cs ad) mu) t.heap; rw [ht]; exact hP)⟩, hS.F ht⟩) hS.2.2 dX12_purse_20
