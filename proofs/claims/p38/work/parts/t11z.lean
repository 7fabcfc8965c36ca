set_option maxHeartbeats 4000000 in
set_option maxRecDepth 100000 in
/-- qm_row -/
theorem qm_row (l : Launch) (dC : Nat → ClassId) (dI : Nat → Nat → Nat) (cs : Nat → ClassId) (ad : Nat → Nat) (mu : Nat → Nat → Int32) (ok : okR loM hiM mu) (H : Heap) (hP : va_P (dC, dI) vwCl (wR 21 ad (EM cs ad) mu) H) (hD0 : va_D (fun _ => True) (wR 21 ad (EM cs ad) mu)) (vr : Int32) (vn : Int32) : Met l yX12_row (wU yX12_row cX12_row 4 (some .int)) ({ frames := 2, cells := 0, slots := 0, locals := 42 }) (va_Pc [.ref (ad 0), .int vr, .int vn] (sz_P (dC, dI) vwCl (tyM cs) H)) (va_Qi (fun (z : Int32) (xi : Nat → Nat → Int32) => (z, xi) = F_qm_row mu vr vn ∧ okR loM hiM xi ∧ (((vr.toInt < 0 ∨ 5 < vr.toInt ∨ 40 < vn.toInt) ∧ z.toInt = -1) ∨ (0 ≤ vr.toInt ∧ vr.toInt ≤ 5 ∧ vn.toInt < 0 ∧ z.toInt = -3) ∨ (0 ≤ vr.toInt ∧ vr.toInt ≤ 5 ∧ 0 ≤ vn.toInt ∧ vn.toInt ≤ 40 ∧ z.toInt = vn.toInt)) ∧ (∀ k f : Nat, Nat.testBit 510 (gpM k f) = true → xi k f = mu k f)) (fun xi t => va_P (dC, dI) vwCl (wR 21 ad (EM cs ad) xi) t.heap) (va_A (wR 21 ad (EM cs ad) mu) H.size)) 0 0 (va_A (wR 21 ad (EM cs ad) mu) H.size) := by
  refine Met.ofW (cc := cX12_row) (maxL := 4) (ret := (some .int)) (by decide) rfl ?_
  intro p e s m args below meth c s₁ B hml hv
  obtain ⟨rfl, hh, hK, hz⟩ := hv
  have hx := B.exec
  have hb := B.bytes
  have hr := B.returns
  have hts := atoms_spec (ws := (wU yX12_row cX12_row 4 (some .int))) B.pre
  have hown : s.vm.findClass RX12 = some m.cls := findClass_of_methodNamed B.named
  have hlocks := B.notSynchronized
  subst hh
  have hD := hD0.self (sz := s.heap.size)
  have hA : ∀ q : Nat, s.heap.size ≤ q → (va_A (wR 21 ad (EM cs ad) mu) s.heap.size) q := fun q h => Or.inr h
  have hS : va_S (va_A (wR 21 ad (EM cs ad) mu) s.heap.size) s.heap s.heap [] := va_S.rf
  have hl := lv_entry ([.ref (ad 0), .int vr, .int vn]) (n := 4) (Nat.le_of_ble_eq_true rfl)
  rw [lg_entry_eq]
  generalize (lg_sl ([.ref (ad 0), .int vr, .int vn]) ++ List.replicate (4 - (lg_sl ([.ref (ad 0), .int vr, .int vn])).length) Slot.unset).toArray = ls at hl ⊢
  have hl : lv_has ls 4 [(0, .ref (ad 0)), (1, .int vr), (2, .int vn)] := hl
  obtain ⟨fz, hfz⟩ : ∃ z, F_qm_row mu vr vn = z := ⟨_, rfl⟩
  have hF := hfz
  unfold F_qm_row at hF
  refine lv_iload_n hx hb dX12_row_0 rfl (lv_at hl 1 rfl) ?_
  refine cr_i (va_runS (As := [.int vr]) (rest := []) ⟨hx, hb, hml, hown, hts⟩ (sm_isRow l dC dI (tyM cs) s.heap vr) (va_cwS 1 hts (wU_S mw_5_186 mw_5_184 mw_5_185 mw_1_13) rfl rfl rfl (by decide +kernel) ⟨Nat.le_of_ble_eq_true rfl, Nat.le_of_ble_eq_true rfl⟩) ⟨sz_c, sz_m hK hz⟩ rfl rfl hl.1 rfl (lv_room (Nat.le_of_ble_eq_true rfl)) dX12_row_1 ⟨Nat.zero_le _, Nat.zero_le _⟩) hS (fun r1 hw1 locs hS => ?_)
  obtain ⟨hfe1, hw1⟩ := hw1
  rcases hw1 with ⟨rfl, f1⟩ | ⟨rfl, f1⟩
  · have hF := (if_pos hfe1.symm).symm.trans hF
    have f1 : 0 ≤ vr.toInt ∧ vr.toInt ≤ 5 := f1
    refine lv_if_eq (tgt := 13) hx hb dX12_row_4 (by decide) (fun c => absurd c (by decide)) (fun _ => ?_)
    refine lv_iload_n hx hb dX12_row_7 rfl (lv_at hl 2 rfl) ?_
    refine lv_bipush (v := 40) hx hb dX12_row_8 (by decide) ?_
    refine lv_icmp_le (tgt := 15) hx hb dX12_row_10 (by decide) (fun c_2 => ?_) (fun c_2 => ?_)
    · have hF := (if_pos c_2).symm.trans hF
      have c_2 : vn.toInt ≤ 40 := il_le c_2
      refine lv_iload_n hx hb dX12_row_15 rfl (lv_at hl 2 rfl) ?_
      refine lv_if_ge (tgt := 25) hx hb dX12_row_16 (by decide) (fun c_3 => ?_) (fun c_3 => ?_)
      · have hF := (if_pos c_3).symm.trans hF
        have c_3 : 0 ≤ vn.toInt := il_le c_3
        refine lv_aload_n hx hb dX12_row_25 rfl (lv_at hl 0 rfl) ?_
        refine va_get (D := (dC, dI)) (ci := 12) (v := .ref (ad 2)) (C := RX12) (T := TX12) (N := 46) hx hb hts inG12 hown hK hP 0 (gM_0 cs ad mu) rfl 3 (by decide) (hts _ (List.mem_cons_of_mem _ mw_5_44)) (fun _ h9 => h9) rfl dX12_row_26 ?_
        refine lv_iload_n hx hb dX12_row_29 rfl (lv_at hl 1 rfl) ?_
        refine lv_iload_n hx hb dX12_row_30 rfl (lv_at hl 2 rfl) ?_
        refine va_iast hx hb hK hP (wR_D mu hD) hS 2 0 (gM_2 cs ad mu) rfl (show vp_in vr 6 from vi_of (by omega) (by omega)) dX12_row_31 (fun H locs hP _ hS => ?_)
        refine wr_gen (upd (mu 2) vr.toNatClampNeg vn) hP (rfl) (fun nu4 hn4 hP => ?_)
        have hF := mi_let hF hn4.symm
        have ok := tM_2_s ok vr.toNatClampNeg hn4 (by omega)
        have kp5 : (∀ k f : Nat, Nat.testBit 510 (gpM k f) = true → nu4 k f = mu k f) := kp_c 0 hn4 (fun _ => rfl) (by decide) (fun _ _ _ => rfl)
        refine lv_iconst (v := 0) hx hb dX12_row_32 (by decide) ?_
        refine lv_istore_n (lv' := [(3, .int 0), (0, .ref (ad 0)), (1, .int vr), (2, .int vn)]) hx hb dX12_row_33 rfl hl (by decide) rfl (fun ls hl => ?_)
        have loop34 : ∀ (n34 : Nat) (v3_34 : Int32) (nu34_ : Nat → Nat → Int32) (H : Heap) (locs : List Loc) (ls : Array Slot), (40 + 1 - v3_34.toInt).toNat < n34 → (0 ≤ v3_34.toInt ∧ v3_34.toInt ≤ 40) → okR loM hiM nu34_ → va_P (dC, dI) vwCl (wR 21 ad (EM cs ad) nu34_) H → (∀ k f : Nat, Nat.testBit 510 (gpM k f) = true → nu34_ k f = mu k f) → L_qm_row_34_0 vn vr n34 v3_34 nu34_ = fz → va_S (va_A (wR 21 ad (EM cs ad) mu) s.heap.size) s.heap H locs → lv_has ls 4 [(3, .int v3_34), (0, .ref (ad 0)), (1, .int vr), (2, .int vn)] → W p l e (headSpec (wU yX12_row cX12_row 4 (some .int)) ({ frames := 2, cells := 0, slots := 0, locals := 42 })).room s m ([.ref (ad 0), .int vr, .int vn] : List Value).toArray below meth c H locs 0 0 (MQ below (va_Qi (fun (z : Int32) (xi : Nat → Nat → Int32) => (z, xi) = F_qm_row mu vr vn ∧ okR loM hiM xi ∧ (((vr.toInt < 0 ∨ 5 < vr.toInt ∨ 40 < vn.toInt) ∧ z.toInt = -1) ∨ (0 ≤ vr.toInt ∧ vr.toInt ≤ 5 ∧ vn.toInt < 0 ∧ z.toInt = -3) ∨ (0 ≤ vr.toInt ∧ vr.toInt ≤ 5 ∧ 0 ≤ vn.toInt ∧ vn.toInt ≤ 40 ∧ z.toInt = vn.toInt)) ∧ (∀ k f : Nat, Nat.testBit 510 (gpM k f) = true → xi k f = mu k f)) (fun xi t => va_P (dC, dI) vwCl (wR 21 ad (EM cs ad) xi) t.heap) (va_A (wR 21 ad (EM cs ad) mu) s.heap.size)) ([.ref (ad 0), .int vr, .int vn] : List Value).toArray s 0 0 (va_A (wR 21 ad (EM cs ad) mu) s.heap.size)) (F0 m 34 ls []) := by
          intro n34
          induction n34 with
          | zero => intro v3_34 nu34_ H locs ls hm; exact absurd hm (Nat.not_lt_zero _)
          | succ n34 ih34 =>
            intro v3_34 nu34_ H locs ls hm_34 h_v3_34 ok hP kq34_0 hF hS hl
            rw [L_qm_row_34_0] at hF
            refine lv_iload_n hx hb dX12_row_34 rfl (lv_at hl 0 rfl) ?_
            refine lv_bipush (v := 40) hx hb dX12_row_35 (by decide) ?_
            refine lv_icmp_ge (tgt := 53) hx hb dX12_row_37 (by decide) (fun c_6 => ?_) (fun c_6 => ?_)
            · have hF := (if_pos c_6).symm.trans hF
              have c_6 : 40 ≤ v3_34.toInt := il_le c_6
              refine lv_iload_n hx hb dX12_row_53 rfl (lv_at hl 3 rfl) ?_
              exact W.iret (v := vn) hx hb hr (fun t ht hW => ⟨⟨vn, nu34_, rfl, ⟨hF.trans hfz.symm, ok, (by omega), kq34_0⟩, by first | (subst ht; exact hP) | (rw [ht]; exact hP) | (show va_P (dC, dI) vwCl (wR 21 ad (EM cs ad) nu34_) t.heap; rw [ht]; exact hP)⟩, hS.F ht⟩) hS.2.2 dX12_row_54
            · have hF := (if_neg c_6).symm.trans hF
              have c_6 : v3_34.toInt < 40 := il_nle c_6
              refine lv_aload_n hx hb dX12_row_40 rfl (lv_at hl 1 rfl) ?_
              refine lv_iload_n hx hb dX12_row_41 rfl (lv_at hl 2 rfl) ?_
              refine lv_iload_n hx hb dX12_row_42 rfl (lv_at hl 0 rfl) ?_
              refine lv_iconst (v := 0) hx hb dX12_row_43 (by decide) ?_
              have hFc := fr_all (wR_D nu34_ hD) hS hA
              refine va_callv (va_runV (As := [.int vr, .int v3_34, .int 0]) (rest := []) ⟨hx, hb, hml, hown, hts⟩ (sm_setRow l dC dI cs ad nu34_ ok H hP ((wR_D nu34_ hD).weaken (fun _ _ _ _ => trivial)) vr v3_34 0 (by have h52 : (0 : Int32).toInt = 0 := rfl; omega)) (cwV 3 hts (wU_V mw_5_197 mw_5_194 mw_5_196 mw_0_27 mw_1_13) rfl rfl rfl (by decide +kernel) ⟨Nat.le_of_ble_eq_true rfl, Nat.le_of_ble_eq_true rfl⟩) ⟨sz_c, va_recv hK hP (ci := 12) (q0 := 0) rfl (gM_0 cs ad nu34_), sz_m hK hz⟩ rfl rfl hl.1 rfl (lv_room (Nat.le_of_ble_eq_true rfl)) dX12_row_44 ⟨Nat.zero_le _, Nat.zero_le _⟩) hS (fun q _ h => hFc q h) hFc (fun xi7 t H7 locs ht hvm hw7 hB hz1 hk1 hS => ?_)
              have hP : va_P (dC, dI) vwCl (wR 21 ad (EM cs ad) xi7) H7 := by rw [← ht]; exact hB
              obtain ⟨hfe7, ok, hw7, hkp7_0⟩ := hw7
              have hF := mi_let hF hfe7
              have kp8 : (∀ k f : Nat, Nat.testBit 510 (gpM k f) = true → xi7 k f = mu k f) := kp_t hkp7_0 (by decide) kq34_0
              refine lv_iinc (v := (v3_34 + 1)) (lv' := [(3, .int (v3_34 + 1)), (0, .ref (ad 0)), (1, .int vr), (2, .int vn)]) hx hb dX12_row_47 hl (k := 0) rfl rfl (by decide) rfl (fun ls hl => ?_)
              refine loc_gen (P := fun w9 => lv_has ls 4 [(3, .int w9), (0, .ref (ad 0)), (1, .int vr), (2, .int vn)]) (v3_34 + 1) hl (fun w9 hw9 hl => ?_)
              have hl : lv_has ls 4 [(3, .int w9), (0, .ref (ad 0)), (1, .int vr), (2, .int vn)] := hl
              have hF := mi_let hF hw9.symm
              have aw9 : w9.toInt = v3_34.toInt + 1 := by rw [← hw9]; first | exact va1 (Int.lt_of_le_of_lt h_v3_34.2 (by decide)) | exact va1 (by omega)
              refine lv_goto (tgt := 34) hx hb dX12_row_50 (by decide) ?_
              exact ih34 (w9) xi7 _ _ _ (by first | exact ms_up hm_34 aw9 h_v3_34.2 | exact ms_lt hm_34 (by omega) (by omega) | omega) (by first | exact rg_up aw9 h_v3_34 (by omega) | omega)  ok hP  kp8 hF hS (lv_sub hl [0, 1, 2, 3] rfl)
        exact loop34 43 (0) nu4 _ _ _ (by have h80 : (0 : Int32).toInt = 0 := rfl; omega) (by have h80 : (0 : Int32).toInt = 0 := rfl; exact ⟨by omega, by omega⟩)  ok hP  kp5 hF hS hl
      · have hF := (if_neg c_3).symm.trans hF
        have c_3 : vn.toInt < 0 := il_nle c_3
        refine lv_aload_n hx hb dX12_row_19 rfl (lv_at hl 0 rfl) ?_
        refine lv_iconst (v := 5) hx hb dX12_row_20 (by decide) ?_
        have hFc := fr_all (wR_D mu hD) hS hA
        refine va_calli (va_runV (As := [.int 5]) (rest := []) ⟨hx, hb, hml, hown, hts⟩ (sm_meet l dC dI cs ad mu ok s.heap hP ((wR_D mu hD).weaken (fun _ _ _ _ => trivial)) 5 (by have h50 : (5 : Int32).toInt = 5 := rfl; omega)) (cwV 1 hts (wU_V mw_5_193 mw_5_190 mw_5_192 mw_0_26 mw_1_13) rfl rfl rfl (by decide +kernel) ⟨Nat.le_of_ble_eq_true rfl, Nat.le_of_ble_eq_true rfl⟩) ⟨sz_c, va_recv hK hP (ci := 12) (q0 := 0) rfl (gM_0 cs ad mu), sz_m hK hz⟩ rfl rfl hl.1 rfl (lv_room (Nat.le_of_ble_eq_true rfl)) dX12_row_21 ⟨Nat.zero_le _, Nat.zero_le _⟩) hS (fun q _ h => hFc q h) hFc (fun r10 xi10 t H10 locs ht hvm hw10 hB hz1 hk1 hS => ?_)
        have hP : va_P (dC, dI) vwCl (wR 21 ad (EM cs ad) xi10) H10 := by rw [← ht]; exact hB
        obtain ⟨hfe10, ok, hw10, hkp10_0⟩ := hw10
        have hF := mi_letp hF hfe10
        have kp11 : (∀ k f : Nat, Nat.testBit 510 (gpM k f) = true → xi10 k f = mu k f) := kp_t hkp10_0 (by decide) (fun _ _ _ => rfl)
        have gr10 : -3 ≤ r10.toInt ∧ r10.toInt ≤ -3 := hw10
        exact W.iret (v := r10) hx hb hr (fun t ht hW => ⟨⟨r10, xi10, rfl, ⟨hF.trans hfz.symm, ok, (by omega), kp11⟩, by first | (subst ht; exact hP) | (rw [ht]; exact hP) | (show va_P (dC, dI) vwCl (wR 21 ad (EM cs ad) xi10) t.heap; rw [ht]; exact hP)⟩, hS.F ht⟩) hS.2.2 dX12_row_24
    · have hF := (if_neg c_2).symm.trans hF
      have c_2 : 40 < vn.toInt := il_nle c_2
      refine lv_iconst (v := (-1)) hx hb dX12_row_13 (by decide) ?_
      exact W.iret (v := (-1)) hx hb hr (fun t ht hW => ⟨⟨(-1), mu, rfl, ⟨hF.trans hfz.symm, ok, (by have h6 : ((-1) : Int32).toInt = -1 := rfl; omega), (fun _ _ _ => rfl)⟩, by first | (subst ht; exact hP) | (rw [ht]; exact hP) | (show va_P (dC, dI) vwCl (wR 21 ad (EM cs ad) mu) t.heap; rw [ht]; exact hP)⟩, hS.F ht⟩) hS.2.2 dX12_row_14
  · have hF := (if_neg (fun h => absurd (hfe1.trans h) (by decide))).symm.trans hF
    have f1 : vr.toInt < 0 ∨ 5 < vr.toInt := f1
    refine lv_if_eq (tgt := 13) hx hb dX12_row_4 (by decide) (fun _ => ?_) (fun c => absurd (by decide) c)
    refine lv_iconst (v := (-1)) hx hb dX12_row_13 (by decide) ?_
    exact W.iret (v := (-1)) hx hb hr (fun t ht hW => ⟨⟨(-1), mu, rfl, ⟨hF.trans hfz.symm, ok, (by have h6 : ((-1) : Int32).toInt = -1 := rfl; omega), (fun _ _ _ => rfl)⟩, by first | (subst ht; exact hP) | (rw [ht]; exact hP) | (show va_P (dC, dI) vwCl (wR 21 ad (EM cs ad) mu) t.heap; rw [ht]; exact hP)⟩, hS.F ht⟩) hS.2.2 dX12_row_14
set_option maxHeartbeats 4000000 in
set_option maxRecDepth 100000 in
/-- qm_at -/
theorem qm_at (l : Launch) (dC : Nat → ClassId) (dI : Nat → Nat → Nat) (cs : Nat → ClassId) (ad : Nat → Nat) (mu : Nat → Nat → Int32) (ok : okR loM hiM mu) (H : Heap) (hP : va_P (dC, dI) vwCl (wR 21 ad (EM cs ad) mu) H) (hD0 : va_D (fun _ => True) (wR 21 ad (EM cs ad) mu)) (vr : Int32) (vi : Int32) : Met l yX12_at (wU yX12_at cX12_at 4 (some .int)) ({ frames := 3, cells := 0, slots := 0, locals := 63 }) (va_Pc [.ref (ad 0), .int vr, .int vi] (sz_P (dC, dI) vwCl (tyM cs) H)) (va_Qi (fun (z : Int32) (xi : Nat → Nat → Int32) => okR loM hiM xi ∧ (z.toInt < 0 ∨ (0 ≤ vr.toInt ∧ vr.toInt ≤ 5 ∧ 0 ≤ vi.toInt ∧ vi.toInt ≤ 39)) ∧ (∀ k f : Nat, Nat.testBit 510 (gpM k f) = true → xi k f = mu k f)) (fun xi t => va_P (dC, dI) vwCl (wR 21 ad (EM cs ad) xi) t.heap) (va_A (wR 21 ad (EM cs ad) mu) H.size)) 0 0 (va_A (wR 21 ad (EM cs ad) mu) H.size) := by
  refine Met.ofW (cc := cX12_at) (maxL := 4) (ret := (some .int)) (by decide) rfl ?_
  intro p e s m args below meth c s₁ B hml hv
  obtain ⟨rfl, hh, hK, hz⟩ := hv
  have hx := B.exec
  have hb := B.bytes
  have hr := B.returns
  have hts := atoms_spec (ws := (wU yX12_at cX12_at 4 (some .int))) B.pre
  have hown : s.vm.findClass RX12 = some m.cls := findClass_of_methodNamed B.named
  have hlocks := B.notSynchronized
  subst hh
  have hD := hD0.self (sz := s.heap.size)
  have hA : ∀ q : Nat, s.heap.size ≤ q → (va_A (wR 21 ad (EM cs ad) mu) s.heap.size) q := fun q h => Or.inr h
  have hS : va_S (va_A (wR 21 ad (EM cs ad) mu) s.heap.size) s.heap s.heap [] := va_S.rf
  have hl := lv_entry ([.ref (ad 0), .int vr, .int vi]) (n := 4) (Nat.le_of_ble_eq_true rfl)
  rw [lg_entry_eq]
  generalize (lg_sl ([.ref (ad 0), .int vr, .int vi]) ++ List.replicate (4 - (lg_sl ([.ref (ad 0), .int vr, .int vi])).length) Slot.unset).toArray = ls at hl ⊢
  have hl : lv_has ls 4 [(0, .ref (ad 0)), (1, .int vr), (2, .int vi)] := hl
  refine lv_aload_n hx hb dX12_at_0 rfl (lv_at hl 0 rfl) ?_
  refine lv_iload_n hx hb dX12_at_1 rfl (lv_at hl 1 rfl) ?_
  have hFc := fr_all (wR_D mu hD) hS hA
  refine va_calli (va_runV (As := [.int vr]) (rest := []) ⟨hx, hb, hml, hown, hts⟩ (sm_askedRow l dC dI cs ad mu ok s.heap hP ((wR_D mu hD).weaken (fun _ _ _ _ => trivial)) vr) (cwV 1 hts (wU_V mw_5_205 mw_5_202 mw_5_204 mw_0_28 mw_1_13) rfl rfl rfl (by decide +kernel) ⟨Nat.le_of_ble_eq_true rfl, Nat.le_of_ble_eq_true rfl⟩) ⟨sz_c, va_recv hK hP (ci := 12) (q0 := 0) rfl (gM_0 cs ad mu), sz_m hK hz⟩ rfl rfl hl.1 rfl (lv_room (Nat.le_of_ble_eq_true rfl)) dX12_at_2 ⟨Nat.zero_le _, Nat.zero_le _⟩) hS (fun q _ h => hFc q h) hFc (fun r1 xi1 t H1 locs ht hvm hw1 hB hz1 hk1 hS => ?_)
  have hP : va_P (dC, dI) vwCl (wR 21 ad (EM cs ad) xi1) H1 := by rw [← ht]; exact hB
  obtain ⟨hfe1, hw1⟩ := hw1
  rcases hw1 with ⟨rfl, hxi1, f1⟩ | ⟨z1, ok, hkp1_0⟩
  · have hP : va_P (dC, dI) vwCl (wR 21 ad (EM cs ad) mu) H1 := by rw [← hxi1]; exact hP
    have f1 : 0 ≤ vr.toInt ∧ vr.toInt ≤ 5 ∧ 0 ≤ (mu 2 vr.toNatClampNeg).toInt := f1
    refine lv_istore_n (lv' := [(3, .int 0), (0, .ref (ad 0)), (1, .int vr), (2, .int vi)]) hx hb dX12_at_5 rfl hl (by decide) rfl (fun ls hl => ?_)
    refine lv_iload_n hx hb dX12_at_6 rfl (lv_at hl 0 rfl) ?_
    refine lv_if_ge (tgt := 12) hx hb dX12_at_7 (by decide) (fun _ => ?_) (fun c => absurd (by decide) c)
    refine lv_iload_n hx hb dX12_at_12 rfl (lv_at hl 3 rfl) ?_
    refine lv_iconst (v := 0) hx hb dX12_at_13 (by decide) ?_
    refine lv_aload_n hx hb dX12_at_14 rfl (lv_at hl 1 rfl) ?_
    refine va_get (D := (dC, dI)) (ci := 12) (v := .ref (ad 2)) (C := RX12) (T := TX12) (N := 46) hx hb hts inG12 hown hK hP 0 (gM_0 cs ad mu) rfl 3 (by decide) (hts _ (List.mem_cons_of_mem _ mw_5_44)) (fun _ h9 => h9) rfl dX12_at_15 ?_
    refine lv_iload_n hx hb dX12_at_18 rfl (lv_at hl 2 rfl) ?_
    refine va_iald hx hb hK hP 2 0 (gM_2 cs ad mu) rfl (show vp_in vr 6 from vi_of (by omega) (by omega)) dX12_at_19 ?_
    refine lv_topi (fun y3 ey3 => ?_)
    have by3 : y3.toInt = (mu 2 vr.toNatClampNeg).toInt := congrArg Int32.toInt ey3
    have gy3 : -9 ≤ y3.toInt ∧ y3.toInt ≤ 40 := by rw [ey3]; exact rM_2_s ok vr.toNatClampNeg
    refine lv_iconst (v := 1) hx hb dX12_at_20 (by decide) ?_
    refine lv_isub hx hb dX12_at_21 ?_
    refine lv_topi (fun t4 et4 => ?_)
    have at4 : t4.toInt = y3.toInt - 1 := by rw [et4]; exact tI_sub (rfl : y3.toInt = _) (rfl : (1 : Int32).toInt = 1) (by omega) (by omega)
    refine cr_i (va_runS (As := [.int vi, .int 0, .int t4]) (rest := []) ⟨hx, hb, hml, hown, hts⟩ (sm_in l dC dI (tyM cs) H1 vi 0 t4) (va_cwS 3 hts (wU_S mw_5_189 mw_5_187 mw_5_188 mw_1_13) rfl rfl rfl (by decide +kernel) ⟨Nat.le_of_ble_eq_true rfl, Nat.le_of_ble_eq_true rfl⟩) ⟨sz_c, sz_m hK hz⟩ rfl rfl hl.1 rfl (lv_room (Nat.le_of_ble_eq_true rfl)) dX12_at_22 ⟨Nat.zero_le _, Nat.zero_le _⟩) hS (fun r5 hw5 locs hS => ?_)
    obtain ⟨hfe5, hw5⟩ := hw5
    rcases hw5 with ⟨rfl, f5⟩ | ⟨rfl, f5⟩
    · have f5 : (0 : Int) ≤ vi.toInt ∧ vi.toInt ≤ t4.toInt := f5
      refine lv_if_eq (tgt := 42) hx hb dX12_at_25 (by decide) (fun c => absurd c (by decide)) (fun _ => ?_)
      refine lv_aload_n hx hb dX12_at_28 rfl (lv_at hl 1 rfl) ?_
      refine lv_aload_n hx hb dX12_at_29 rfl (lv_at hl 1 rfl) ?_
      refine lv_iload_n hx hb dX12_at_30 rfl (lv_at hl 2 rfl) ?_
      refine lv_iload_n hx hb dX12_at_31 rfl (lv_at hl 3 rfl) ?_
      refine cr_i (va_runV (As := [.int vr, .int vi]) (rest := [.ref (ad 0)]) ⟨hx, hb, hml, hown, hts⟩ (sm_rowAt l dC dI cs ad mu ok H1 hP vr vi (by omega)) (cwV 2 hts (wU_V mw_5_209 mw_5_206 mw_5_208 mw_0_29 mw_1_13) rfl rfl rfl (by decide +kernel) ⟨Nat.le_of_ble_eq_true rfl, Nat.le_of_ble_eq_true rfl⟩) ⟨sz_c, va_recv hK hP (ci := 12) (q0 := 0) rfl (gM_0 cs ad mu), sz_m hK hz⟩ rfl rfl hl.1 rfl (lv_room (Nat.le_of_ble_eq_true rfl)) dX12_at_32 ⟨Nat.zero_le _, Nat.zero_le _⟩) hS (fun r6 hw6 locs hS => ?_)
      obtain ⟨hfe6, hw6⟩ := hw6
      refine lv_iconst (v := 1) hx hb dX12_at_35 (by decide) ?_
      have hFc := fr_all (wR_D mu hD) hS hA
      refine va_calli (va_runV (As := [.int r6, .int 1]) (rest := []) ⟨hx, hb, hml, hown, hts⟩ (sm_ask l dC dI cs ad mu ok H1 hP ((wR_D mu hD).weaken (fun _ _ _ _ => trivial)) r6 1) (cwV 2 hts (wU_V mw_5_213 mw_5_210 mw_5_212 mw_0_30 mw_1_13) rfl rfl rfl (by decide +kernel) ⟨Nat.le_of_ble_eq_true rfl, Nat.le_of_ble_eq_true rfl⟩) ⟨sz_c, va_recv hK hP (ci := 12) (q0 := 0) rfl (gM_0 cs ad mu), sz_m hK hz⟩ rfl rfl hl.1 rfl (lv_room (Nat.le_of_ble_eq_true rfl)) dX12_at_36 ⟨Nat.zero_le _, Nat.zero_le _⟩) hS (fun q _ h => hFc q h) hFc (fun r7 xi7 t H7 locs ht hvm hw7 hB hz1 hk1 hS => ?_)
      have hP : va_P (dC, dI) vwCl (wR 21 ad (EM cs ad) xi7) H7 := by rw [← ht]; exact hB
      obtain ⟨hfe7, ok, hw7, hkp7_0⟩ := hw7
      have kp8 : (∀ k f : Nat, Nat.testBit 510 (gpM k f) = true → xi7 k f = mu k f) := kp_t hkp7_0 (by decide) (fun _ _ _ => rfl)
      have gr7 : r7.toInt = (1 : Int) := hw7
      refine lv_goto (tgt := 47) hx hb dX12_at_39 (by decide) ?_
      exact W.iret (v := r7) hx hb hr (fun t ht hW => ⟨⟨r7, xi7, rfl, ⟨ok, (by omega), kp8⟩, by first | (subst ht; exact hP) | (rw [ht]; exact hP) | (show va_P (dC, dI) vwCl (wR 21 ad (EM cs ad) xi7) t.heap; rw [ht]; exact hP)⟩, hS.F ht⟩) hS.2.2 dX12_at_47
    · have f5 : vi.toInt < (0 : Int) ∨ t4.toInt < vi.toInt := f5
      refine lv_if_eq (tgt := 42) hx hb dX12_at_25 (by decide) (fun _ => ?_) (fun c => absurd (by decide) c)
      refine lv_aload_n hx hb dX12_at_42 rfl (lv_at hl 1 rfl) ?_
      refine lv_iconst (v := 2) hx hb dX12_at_43 (by decide) ?_
      have hFc := fr_all (wR_D mu hD) hS hA
      refine va_calli (va_runV (As := [.int 2]) (rest := []) ⟨hx, hb, hml, hown, hts⟩ (sm_meet l dC dI cs ad mu ok H1 hP ((wR_D mu hD).weaken (fun _ _ _ _ => trivial)) 2 (by have h50 : (2 : Int32).toInt = 2 := rfl; omega)) (cwV 1 hts (wU_V mw_5_193 mw_5_190 mw_5_192 mw_0_26 mw_1_13) rfl rfl rfl (by decide +kernel) ⟨Nat.le_of_ble_eq_true rfl, Nat.le_of_ble_eq_true rfl⟩) ⟨sz_c, va_recv hK hP (ci := 12) (q0 := 0) rfl (gM_0 cs ad mu), sz_m hK hz⟩ rfl rfl hl.1 rfl (lv_room (Nat.le_of_ble_eq_true rfl)) dX12_at_44 ⟨Nat.zero_le _, Nat.zero_le _⟩) hS (fun q _ h => hFc q h) hFc (fun r9 xi9 t H9 locs ht hvm hw9 hB hz1 hk1 hS => ?_)
      have hP : va_P (dC, dI) vwCl (wR 21 ad (EM cs ad) xi9) H9 := by rw [← ht]; exact hB
      obtain ⟨hfe9, ok, hw9, hkp9_0⟩ := hw9
      have kp10 : (∀ k f : Nat, Nat.testBit 510 (gpM k f) = true → xi9 k f = mu k f) := kp_t hkp9_0 (by decide) (fun _ _ _ => rfl)
      have gr9 : -3 ≤ r9.toInt ∧ r9.toInt ≤ -3 := hw9
      exact W.iret (v := r9) hx hb hr (fun t ht hW => ⟨⟨r9, xi9, rfl, ⟨ok, (by omega), kp10⟩, by first | (subst ht; exact hP) | (rw [ht]; exact hP) | (show va_P (dC, dI) vwCl (wR 21 ad (EM cs ad) xi9) t.heap; rw [ht]; exact hP)⟩, hS.F ht⟩) hS.2.2 dX12_at_47
  · have kp2 : (∀ k f : Nat, Nat.testBit 510 (gpM k f) = true → xi1 k f = mu k f) := kp_t hkp1_0 (by decide) (fun _ _ _ => rfl)
    skip
    refine lv_istore_n (lv' := [(3, .int r1), (0, .ref (ad 0)), (1, .int vr), (2, .int vi)]) hx hb dX12_at_5 rfl hl (by decide) rfl (fun ls hl => ?_)
    refine lv_iload_n hx hb dX12_at_6 rfl (lv_at hl 0 rfl) ?_
    refine lv_if_ge (tgt := 12) hx hb dX12_at_7 (by decide) (fun c_11 => by have c_11 : 0 ≤ r1.toInt := il_le c_11; exfalso; omega) (fun c_11 => ?_)
    have c_11 : r1.toInt < 0 := il_nle c_11
    refine lv_iload_n hx hb dX12_at_10 rfl (lv_at hl 0 rfl) ?_
    exact W.iret (v := r1) hx hb hr (fun t ht hW => ⟨⟨r1, xi1, rfl, ⟨ok, (by omega), kp2⟩, by first | (subst ht; exact hP) | (rw [ht]; exact hP) | (show va_P (dC, dI) vwCl (wR 21 ad (EM cs ad) xi1) t.heap; rw [ht]; exact hP)⟩, hS.F ht⟩) hS.2.2 dX12_at_11
set_option maxHeartbeats 4000000 in
set_option maxRecDepth 100000 in
/-- qm_lay -/
theorem qm_lay (l : Launch) (dC : Nat → ClassId) (dI : Nat → Nat → Nat) (cs : Nat → ClassId) (ad : Nat → Nat) (mu : Nat → Nat → Int32) (ok : okR loM hiM mu) (H : Heap) (hP : va_P (dC, dI) vwCl (wR 21 ad (EM cs ad) mu) H) (hD0 : va_D (fun _ => True) (wR 21 ad (EM cs ad) mu)) (vr : Int32) (vi : Int32) (vv : Int32) : Met l yX12_lay (wU yX12_lay cX12_lay 5 (some .int)) ({ frames := 4, cells := 0, slots := 0, locals := 86 }) (va_Pc [.ref (ad 0), .int vr, .int vi, .int vv] (sz_P (dC, dI) vwCl (tyM cs) H)) (va_Qi (fun (z : Int32) (xi : Nat → Nat → Int32) => okR loM hiM xi ∧ (True) ∧ (∀ k f : Nat, Nat.testBit 510 (gpM k f) = true → xi k f = mu k f)) (fun xi t => va_P (dC, dI) vwCl (wR 21 ad (EM cs ad) xi) t.heap) (va_A (wR 21 ad (EM cs ad) mu) H.size)) 0 0 (va_A (wR 21 ad (EM cs ad) mu) H.size) := by
  refine Met.ofW (cc := cX12_lay) (maxL := 5) (ret := (some .int)) (by decide) rfl ?_
  intro p e s m args below meth c s₁ B hml hv
  obtain ⟨rfl, hh, hK, hz⟩ := hv
  have hx := B.exec
  have hb := B.bytes
  have hr := B.returns
  have hts := atoms_spec (ws := (wU yX12_lay cX12_lay 5 (some .int))) B.pre
  have hown : s.vm.findClass RX12 = some m.cls := findClass_of_methodNamed B.named
  have hlocks := B.notSynchronized
  subst hh
  have hD := hD0.self (sz := s.heap.size)
  have hA : ∀ q : Nat, s.heap.size ≤ q → (va_A (wR 21 ad (EM cs ad) mu) s.heap.size) q := fun q h => Or.inr h
  have hS : va_S (va_A (wR 21 ad (EM cs ad) mu) s.heap.size) s.heap s.heap [] := va_S.rf
  have hl := lv_entry ([.ref (ad 0), .int vr, .int vi, .int vv]) (n := 5) (Nat.le_of_ble_eq_true rfl)
  rw [lg_entry_eq]
  generalize (lg_sl ([.ref (ad 0), .int vr, .int vi, .int vv]) ++ List.replicate (5 - (lg_sl ([.ref (ad 0), .int vr, .int vi, .int vv])).length) Slot.unset).toArray = ls at hl ⊢
  have hl : lv_has ls 5 [(0, .ref (ad 0)), (1, .int vr), (2, .int vi), (3, .int vv)] := hl
  refine lv_aload_n hx hb dX12_lay_0 rfl (lv_at hl 0 rfl) ?_
  refine lv_iload_n hx hb dX12_lay_1 rfl (lv_at hl 1 rfl) ?_
  refine lv_iload_n hx hb dX12_lay_2 rfl (lv_at hl 2 rfl) ?_
  have hFc := fr_all (wR_D mu hD) hS hA
  refine va_calli (va_runV (As := [.int vr, .int vi]) (rest := []) ⟨hx, hb, hml, hown, hts⟩ (qm_at l dC dI cs ad mu ok s.heap hP ((wR_D mu hD).weaken (fun _ _ _ _ => trivial)) vr vi) (cwV 2 hts (wU_V mw_5_201 mw_5_218 mw_5_199 mw_5_200 mw_1_13) rfl rfl rfl (by decide +kernel) ⟨Nat.le_of_ble_eq_true rfl, Nat.le_of_ble_eq_true rfl⟩) ⟨sz_c, va_recv hK hP (ci := 12) (q0 := 0) rfl (gM_0 cs ad mu), sz_m hK hz⟩ rfl rfl hl.1 rfl (lv_room (Nat.le_of_ble_eq_true rfl)) dX12_lay_3 ⟨Nat.zero_le _, Nat.zero_le _⟩) hS (fun q _ h => hFc q h) hFc (fun r1 xi1 t H1 locs ht hvm hw1 hB hz1 hk1 hS => ?_)
  have hP : va_P (dC, dI) vwCl (wR 21 ad (EM cs ad) xi1) H1 := by rw [← ht]; exact hB
  obtain ⟨ok, hw1, hkp1_0⟩ := hw1
  have kp2 : (∀ k f : Nat, Nat.testBit 510 (gpM k f) = true → xi1 k f = mu k f) := kp_t hkp1_0 (by decide) (fun _ _ _ => rfl)
  have gr1 : r1.toInt < 0 ∨ (0 ≤ vr.toInt ∧ vr.toInt ≤ 5 ∧ 0 ≤ vi.toInt ∧ vi.toInt ≤ 39) := hw1
  refine lv_istore (lv' := [(4, .int r1), (0, .ref (ad 0)), (1, .int vr), (2, .int vi), (3, .int vv)]) hx hb dX12_lay_6 hl (by decide) rfl (fun ls hl => ?_)
  refine lv_iload hx hb dX12_lay_8 (lv_at hl 0 rfl) ?_
  refine lv_if_ge (tgt := 16) hx hb dX12_lay_10 (by decide) (fun c_3 => ?_) (fun c_3 => ?_)
  · have c_3 : 0 ≤ r1.toInt := il_le c_3
    refine lv_aload_n hx hb dX12_lay_16 rfl (lv_at hl 1 rfl) ?_
    refine lv_iload_n hx hb dX12_lay_17 rfl (lv_at hl 2 rfl) ?_
    refine lv_iload_n hx hb dX12_lay_18 rfl (lv_at hl 3 rfl) ?_
    refine lv_iload_n hx hb dX12_lay_19 rfl (lv_at hl 4 rfl) ?_
    have hFc := fr_all (wR_D xi1 hD) hS hA
    refine va_callv (va_runV (As := [.int vr, .int vi, .int vv]) (rest := []) ⟨hx, hb, hml, hown, hts⟩ (sm_setRow l dC dI cs ad xi1 ok H1 hP ((wR_D xi1 hD).weaken (fun _ _ _ _ => trivial)) vr vi vv (by omega)) (cwV 3 hts (wU_V mw_5_197 mw_5_194 mw_5_196 mw_0_27 mw_1_13) rfl rfl rfl (by decide +kernel) ⟨Nat.le_of_ble_eq_true rfl, Nat.le_of_ble_eq_true rfl⟩) ⟨sz_c, va_recv hK hP (ci := 12) (q0 := 0) rfl (gM_0 cs ad xi1), sz_m hK hz⟩ rfl rfl hl.1 rfl (lv_room (Nat.le_of_ble_eq_true rfl)) dX12_lay_20 ⟨Nat.zero_le _, Nat.zero_le _⟩) hS (fun q _ h => hFc q h) hFc (fun xi4 t H4 locs ht hvm hw4 hB hz1 hk1 hS => ?_)
    have hP : va_P (dC, dI) vwCl (wR 21 ad (EM cs ad) xi4) H4 := by rw [← ht]; exact hB
    obtain ⟨hfe4, ok, hw4, hkp4_0⟩ := hw4
    have kp5 : (∀ k f : Nat, Nat.testBit 510 (gpM k f) = true → xi4 k f = mu k f) := kp_t hkp4_0 (by decide) kp2
    refine lv_iconst (v := 1) hx hb dX12_lay_23 (by decide) ?_
    exact W.iret (v := 1) hx hb hr (fun t ht hW => ⟨⟨1, xi4, rfl, ⟨ok, trivial, kp5⟩, by first | (subst ht; exact hP) | (rw [ht]; exact hP) | (show va_P (dC, dI) vwCl (wR 21 ad (EM cs ad) xi4) t.heap; rw [ht]; exact hP)⟩, hS.F ht⟩) hS.2.2 dX12_lay_24
  · have c_3 : r1.toInt < 0 := il_nle c_3
    refine lv_iload hx hb dX12_lay_13 (lv_at hl 0 rfl) ?_
    exact W.iret (v := r1) hx hb hr (fun t ht hW => ⟨⟨r1, xi1, rfl, ⟨ok, trivial, kp2⟩, by first | (subst ht; exact hP) | (rw [ht]; exact hP) | (show va_P (dC, dI) vwCl (wR 21 ad (EM cs ad) xi1) t.heap; rw [ht]; exact hP)⟩, hS.F ht⟩) hS.2.2 dX12_lay_15
set_option maxHeartbeats 4000000 in
set_option maxRecDepth 100000 in
/-- qm_tear -/
theorem qm_tear (l : Launch) (dC : Nat → ClassId) (dI : Nat → Nat → Nat) (cs : Nat → ClassId) (ad : Nat → Nat) (mu : Nat → Nat → Int32) (ok : okR loM hiM mu) (H : Heap) (hP : va_P (dC, dI) vwCl (wR 21 ad (EM cs ad) mu) H) (hD0 : va_D (fun _ => True) (wR 21 ad (EM cs ad) mu)) (vr : Int32) : Met l yX12_tear (wU yX12_tear cX12_tear 3 (some .int)) ({ frames := 3, cells := 0, slots := 0, locals := 63 }) (va_Pc [.ref (ad 0), .int vr] (sz_P (dC, dI) vwCl (tyM cs) H)) (va_Qi (fun (z : Int32) (xi : Nat → Nat → Int32) => okR loM hiM xi ∧ (True) ∧ (∀ k f : Nat, Nat.testBit 510 (gpM k f) = true → xi k f = mu k f)) (fun xi t => va_P (dC, dI) vwCl (wR 21 ad (EM cs ad) xi) t.heap) (va_A (wR 21 ad (EM cs ad) mu) H.size)) 0 0 (va_A (wR 21 ad (EM cs ad) mu) H.size) := by
  refine Met.ofW (cc := cX12_tear) (maxL := 3) (ret := (some .int)) (by decide) rfl ?_
  intro p e s m args below meth c s₁ B hml hv
  obtain ⟨rfl, hh, hK, hz⟩ := hv
  have hx := B.exec
  have hb := B.bytes
  have hr := B.returns
  have hts := atoms_spec (ws := (wU yX12_tear cX12_tear 3 (some .int))) B.pre
  have hown : s.vm.findClass RX12 = some m.cls := findClass_of_methodNamed B.named
  have hlocks := B.notSynchronized
  subst hh
  have hD := hD0.self (sz := s.heap.size)
  have hA : ∀ q : Nat, s.heap.size ≤ q → (va_A (wR 21 ad (EM cs ad) mu) s.heap.size) q := fun q h => Or.inr h
  have hS : va_S (va_A (wR 21 ad (EM cs ad) mu) s.heap.size) s.heap s.heap [] := va_S.rf
  have hl := lv_entry ([.ref (ad 0), .int vr]) (n := 3) (Nat.le_of_ble_eq_true rfl)
  rw [lg_entry_eq]
  generalize (lg_sl ([.ref (ad 0), .int vr]) ++ List.replicate (3 - (lg_sl ([.ref (ad 0), .int vr])).length) Slot.unset).toArray = ls at hl ⊢
  have hl : lv_has ls 3 [(0, .ref (ad 0)), (1, .int vr)] := hl
  refine lv_aload_n hx hb dX12_tear_0 rfl (lv_at hl 0 rfl) ?_
  refine lv_iload_n hx hb dX12_tear_1 rfl (lv_at hl 1 rfl) ?_
  have hFc := fr_all (wR_D mu hD) hS hA
  refine va_calli (va_runV (As := [.int vr]) (rest := []) ⟨hx, hb, hml, hown, hts⟩ (sm_askedRow l dC dI cs ad mu ok s.heap hP ((wR_D mu hD).weaken (fun _ _ _ _ => trivial)) vr) (cwV 1 hts (wU_V mw_5_205 mw_5_202 mw_5_204 mw_0_28 mw_1_13) rfl rfl rfl (by decide +kernel) ⟨Nat.le_of_ble_eq_true rfl, Nat.le_of_ble_eq_true rfl⟩) ⟨sz_c, va_recv hK hP (ci := 12) (q0 := 0) rfl (gM_0 cs ad mu), sz_m hK hz⟩ rfl rfl hl.1 rfl (lv_room (Nat.le_of_ble_eq_true rfl)) dX12_tear_2 ⟨Nat.zero_le _, Nat.zero_le _⟩) hS (fun q _ h => hFc q h) hFc (fun r1 xi1 t H1 locs ht hvm hw1 hB hz1 hk1 hS => ?_)
  have hP : va_P (dC, dI) vwCl (wR 21 ad (EM cs ad) xi1) H1 := by rw [← ht]; exact hB
  obtain ⟨hfe1, hw1⟩ := hw1
  rcases hw1 with ⟨rfl, hxi1, f1⟩ | ⟨z1, ok, hkp1_0⟩
  · have hP : va_P (dC, dI) vwCl (wR 21 ad (EM cs ad) mu) H1 := by rw [← hxi1]; exact hP
    have f1 : 0 ≤ vr.toInt ∧ vr.toInt ≤ 5 ∧ 0 ≤ (mu 2 vr.toNatClampNeg).toInt := f1
    refine lv_istore_n (lv' := [(2, .int 0), (0, .ref (ad 0)), (1, .int vr)]) hx hb dX12_tear_5 rfl hl (by decide) rfl (fun ls hl => ?_)
    refine lv_iload_n hx hb dX12_tear_6 rfl (lv_at hl 0 rfl) ?_
    refine lv_if_ge (tgt := 12) hx hb dX12_tear_7 (by decide) (fun _ => ?_) (fun c => absurd (by decide) c)
    refine lv_aload_n hx hb dX12_tear_12 rfl (lv_at hl 1 rfl) ?_
    refine va_get (D := (dC, dI)) (ci := 12) (v := .ref (ad 2)) (C := RX12) (T := TX12) (N := 46) hx hb hts inG12 hown hK hP 0 (gM_0 cs ad mu) rfl 3 (by decide) (hts _ (List.mem_cons_of_mem _ mw_5_44)) (fun _ h9 => h9) rfl dX12_tear_13 ?_
    refine lv_iload_n hx hb dX12_tear_16 rfl (lv_at hl 2 rfl) ?_
    refine lv_bipush (v := (-9)) hx hb dX12_tear_17 (by decide) ?_
    refine va_iast hx hb hK hP (wR_D mu hD) hS 2 0 (gM_2 cs ad mu) rfl (show vp_in vr 6 from vi_of (by omega) (by omega)) dX12_tear_19 (fun H locs hP _ hS => ?_)
    refine wr_gen (upd (mu 2) vr.toNatClampNeg (-9)) hP (rfl) (fun nu3 hn3 hP => ?_)
    have ok := tM_2_s ok vr.toNatClampNeg hn3 (by have h9 : ((-9) : Int32).toInt = -9 := rfl; exact ⟨by omega, by omega⟩)
    have kp4 : (∀ k f : Nat, Nat.testBit 510 (gpM k f) = true → nu3 k f = mu k f) := kp_c 0 hn3 (fun _ => rfl) (by decide) (fun _ _ _ => rfl)
    refine lv_iconst (v := 1) hx hb dX12_tear_20 (by decide) ?_
    exact W.iret (v := 1) hx hb hr (fun t ht hW => ⟨⟨1, nu3, rfl, ⟨ok, trivial, kp4⟩, by first | (subst ht; exact hP) | (rw [ht]; exact hP) | (show va_P (dC, dI) vwCl (wR 21 ad (EM cs ad) nu3) t.heap; rw [ht]; exact hP)⟩, hS.F ht⟩) hS.2.2 dX12_tear_21
  · have kp2 : (∀ k f : Nat, Nat.testBit 510 (gpM k f) = true → xi1 k f = mu k f) := kp_t hkp1_0 (by decide) (fun _ _ _ => rfl)
    skip
    refine lv_istore_n (lv' := [(2, .int r1), (0, .ref (ad 0)), (1, .int vr)]) hx hb dX12_tear_5 rfl hl (by decide) rfl (fun ls hl => ?_)
    refine lv_iload_n hx hb dX12_tear_6 rfl (lv_at hl 0 rfl) ?_
    refine lv_if_ge (tgt := 12) hx hb dX12_tear_7 (by decide) (fun c_5 => by have c_5 : 0 ≤ r1.toInt := il_le c_5; exfalso; omega) (fun c_5 => ?_)
    have c_5 : r1.toInt < 0 := il_nle c_5
    refine lv_iload_n hx hb dX12_tear_10 rfl (lv_at hl 0 rfl) ?_
    exact W.iret (v := r1) hx hb hr (fun t ht hW => ⟨⟨r1, xi1, rfl, ⟨ok, trivial, kp2⟩, by first | (subst ht; exact hP) | (rw [ht]; exact hP) | (show va_P (dC, dI) vwCl (wR 21 ad (EM cs ad) xi1) t.heap; rw [ht]; exact hP)⟩, hS.F ht⟩) hS.2.2 dX12_tear_11
set_option maxHeartbeats 4000000 in
set_option maxRecDepth 100000 in
/-- qm_copy -/
theorem qm_copy (l : Launch) (dC : Nat → ClassId) (dI : Nat → Nat → Nat) (cs : Nat → ClassId) (ad : Nat → Nat) (mu : Nat → Nat → Int32) (ok : okR loM hiM mu) (H : Heap) (hP : va_P (dC, dI) vwCl (wR 21 ad (EM cs ad) mu) H) (hD0 : va_D (fun _ => True) (wR 21 ad (EM cs ad) mu)) (vr : Int32) (vi : Int32) (vt : Int32) (vj : Int32) (vn : Int32) : Met l yX12_copy (wU yX12_copy cX12_copy 7 (some .int)) ({ frames := 2, cells := 0, slots := 0, locals := 42 }) (va_Pc [.ref (ad 0), .int vr, .int vi, .int vt, .int vj, .int vn] (sz_P (dC, dI) vwCl (tyM cs) H)) (va_Qi (fun (z : Int32) (xi : Nat → Nat → Int32) => okR loM hiM xi ∧ (True) ∧ (∀ k f : Nat, Nat.testBit 510 (gpM k f) = true → xi k f = mu k f)) (fun xi t => va_P (dC, dI) vwCl (wR 21 ad (EM cs ad) xi) t.heap) (va_A (wR 21 ad (EM cs ad) mu) H.size)) 0 0 (va_A (wR 21 ad (EM cs ad) mu) H.size) := by
  refine Met.ofW (cc := cX12_copy) (maxL := 7) (ret := (some .int)) (by decide) rfl ?_
  intro p e s m args below meth c s₁ B hml hv
  obtain ⟨rfl, hh, hK, hz⟩ := hv
  have hx := B.exec
  have hb := B.bytes
  have hr := B.returns
  have hts := atoms_spec (ws := (wU yX12_copy cX12_copy 7 (some .int))) B.pre
  have hown : s.vm.findClass RX12 = some m.cls := findClass_of_methodNamed B.named
  have hlocks := B.notSynchronized
  subst hh
  have hD := hD0.self (sz := s.heap.size)
  have hA : ∀ q : Nat, s.heap.size ≤ q → (va_A (wR 21 ad (EM cs ad) mu) s.heap.size) q := fun q h => Or.inr h
  have hS : va_S (va_A (wR 21 ad (EM cs ad) mu) s.heap.size) s.heap s.heap [] := va_S.rf
  have hl := lv_entry ([.ref (ad 0), .int vr, .int vi, .int vt, .int vj, .int vn]) (n := 7) (Nat.le_of_ble_eq_true rfl)
  rw [lg_entry_eq]
  generalize (lg_sl ([.ref (ad 0), .int vr, .int vi, .int vt, .int vj, .int vn]) ++ List.replicate (7 - (lg_sl ([.ref (ad 0), .int vr, .int vi, .int vt, .int vj, .int vn])).length) Slot.unset).toArray = ls at hl ⊢
  have hl : lv_has ls 7 [(0, .ref (ad 0)), (1, .int vr), (2, .int vi), (3, .int vt), (4, .int vj), (5, .int vn)] := hl
  refine lv_iload_n hx hb dX12_copy_0 rfl (lv_at hl 1 rfl) ?_
  refine cr_i (va_runS (As := [.int vr]) (rest := []) ⟨hx, hb, hml, hown, hts⟩ (sm_isRow l dC dI (tyM cs) s.heap vr) (va_cwS 1 hts (wU_S mw_5_186 mw_5_184 mw_5_185 mw_1_13) rfl rfl rfl (by decide +kernel) ⟨Nat.le_of_ble_eq_true rfl, Nat.le_of_ble_eq_true rfl⟩) ⟨sz_c, sz_m hK hz⟩ rfl rfl hl.1 rfl (lv_room (Nat.le_of_ble_eq_true rfl)) dX12_copy_1 ⟨Nat.zero_le _, Nat.zero_le _⟩) hS (fun r1 hw1 locs hS => ?_)
  obtain ⟨hfe1, hw1⟩ := hw1
  rcases hw1 with ⟨rfl, f1⟩ | ⟨rfl, f1⟩
  · have f1 : 0 ≤ vr.toInt ∧ vr.toInt ≤ 5 := f1
    refine lv_if_eq (tgt := 14) hx hb dX12_copy_4 (by decide) (fun c => absurd c (by decide)) (fun _ => ?_)
    refine lv_iload_n hx hb dX12_copy_7 rfl (lv_at hl 3 rfl) ?_
    refine cr_i (va_runS (As := [.int vt]) (rest := []) ⟨hx, hb, hml, hown, hts⟩ (sm_isRow l dC dI (tyM cs) s.heap vt) (va_cwS 1 hts (wU_S mw_5_186 mw_5_184 mw_5_185 mw_1_13) rfl rfl rfl (by decide +kernel) ⟨Nat.le_of_ble_eq_true rfl, Nat.le_of_ble_eq_true rfl⟩) ⟨sz_c, sz_m hK hz⟩ rfl rfl hl.1 rfl (lv_room (Nat.le_of_ble_eq_true rfl)) dX12_copy_8 ⟨Nat.zero_le _, Nat.zero_le _⟩) hS (fun r2 hw2 locs hS => ?_)
    obtain ⟨hfe2, hw2⟩ := hw2
    rcases hw2 with ⟨rfl, f2⟩ | ⟨rfl, f2⟩
    · have f2 : 0 ≤ vt.toInt ∧ vt.toInt ≤ 5 := f2
      refine lv_if_ne (tgt := 16) hx hb dX12_copy_11 (by decide) (fun _ => ?_) (fun c => absurd c (by decide))
      refine lv_iload hx hb dX12_copy_16 (lv_at hl 5 rfl) ?_
      refine lv_if_ge (tgt := 27) hx hb dX12_copy_18 (by decide) (fun c_3 => ?_) (fun c_3 => ?_)
      · have c_3 : 0 ≤ vn.toInt := il_le c_3
        refine lv_aload_n hx hb dX12_copy_27 rfl (lv_at hl 0 rfl) ?_
        refine va_get (D := (dC, dI)) (ci := 12) (v := .ref (ad 2)) (C := RX12) (T := TX12) (N := 46) hx hb hts inG12 hown hK hP 0 (gM_0 cs ad mu) rfl 3 (by decide) (hts _ (List.mem_cons_of_mem _ mw_5_44)) (fun _ h9 => h9) rfl dX12_copy_28 ?_
        refine lv_iload_n hx hb dX12_copy_31 rfl (lv_at hl 1 rfl) ?_
        refine va_iald hx hb hK hP 2 0 (gM_2 cs ad mu) rfl (show vp_in vr 6 from vi_of (by omega) (by omega)) dX12_copy_32 ?_
        refine lv_topi (fun y4 ey4 => ?_)
        have by4 : y4.toInt = (mu 2 vr.toNatClampNeg).toInt := congrArg Int32.toInt ey4
        have gy4 : -9 ≤ y4.toInt ∧ y4.toInt ≤ 40 := by rw [ey4]; exact rM_2_s ok vr.toNatClampNeg
        refine lv_if_lt (tgt := 45) hx hb dX12_copy_33 (by decide) (fun c_5 => ?_) (fun c_5 => ?_)
        · have c_5 : y4.toInt < 0 := il_lt c_5
          refine lv_aload_n hx hb dX12_copy_45 rfl (lv_at hl 0 rfl) ?_
          refine lv_iconst (v := 1) hx hb dX12_copy_46 (by decide) ?_
          have hFc := fr_all (wR_D mu hD) hS hA
          refine va_calli (va_runV (As := [.int 1]) (rest := []) ⟨hx, hb, hml, hown, hts⟩ (sm_meet l dC dI cs ad mu ok s.heap hP ((wR_D mu hD).weaken (fun _ _ _ _ => trivial)) 1 (by have h50 : (1 : Int32).toInt = 1 := rfl; omega)) (cwV 1 hts (wU_V mw_5_193 mw_5_190 mw_5_192 mw_0_26 mw_1_13) rfl rfl rfl (by decide +kernel) ⟨Nat.le_of_ble_eq_true rfl, Nat.le_of_ble_eq_true rfl⟩) ⟨sz_c, va_recv hK hP (ci := 12) (q0 := 0) rfl (gM_0 cs ad mu), sz_m hK hz⟩ rfl rfl hl.1 rfl (lv_room (Nat.le_of_ble_eq_true rfl)) dX12_copy_47 ⟨Nat.zero_le _, Nat.zero_le _⟩) hS (fun q _ h => hFc q h) hFc (fun r6 xi6 t H6 locs ht hvm hw6 hB hz1 hk1 hS => ?_)
          have hP : va_P (dC, dI) vwCl (wR 21 ad (EM cs ad) xi6) H6 := by rw [← ht]; exact hB
          obtain ⟨hfe6, ok, hw6, hkp6_0⟩ := hw6
          have kp7 : (∀ k f : Nat, Nat.testBit 510 (gpM k f) = true → xi6 k f = mu k f) := kp_t hkp6_0 (by decide) (fun _ _ _ => rfl)
          have gr6 : -3 ≤ r6.toInt ∧ r6.toInt ≤ -3 := hw6
          exact W.iret (v := r6) hx hb hr (fun t ht hW => ⟨⟨r6, xi6, rfl, ⟨ok, trivial, kp7⟩, by first | (subst ht; exact hP) | (rw [ht]; exact hP) | (show va_P (dC, dI) vwCl (wR 21 ad (EM cs ad) xi6) t.heap; rw [ht]; exact hP)⟩, hS.F ht⟩) hS.2.2 dX12_copy_50
        · have c_5 : 0 ≤ y4.toInt := il_nlt c_5
          refine lv_aload_n hx hb dX12_copy_36 rfl (lv_at hl 0 rfl) ?_
          refine va_get (D := (dC, dI)) (ci := 12) (v := .ref (ad 2)) (C := RX12) (T := TX12) (N := 46) hx hb hts inG12 hown hK hP 0 (gM_0 cs ad mu) rfl 3 (by decide) (hts _ (List.mem_cons_of_mem _ mw_5_44)) (fun _ h9 => h9) rfl dX12_copy_37 ?_
          refine lv_iload_n hx hb dX12_copy_40 rfl (lv_at hl 3 rfl) ?_
          refine va_iald hx hb hK hP 2 0 (gM_2 cs ad mu) rfl (show vp_in vt 6 from vi_of (by omega) (by omega)) dX12_copy_41 ?_
          refine lv_topi (fun y8 ey8 => ?_)
          have by8 : y8.toInt = (mu 2 vt.toNatClampNeg).toInt := congrArg Int32.toInt ey8
          have gy8 : -9 ≤ y8.toInt ∧ y8.toInt ≤ 40 := by rw [ey8]; exact rM_2_s ok vt.toNatClampNeg
          refine lv_if_ge (tgt := 51) hx hb dX12_copy_42 (by decide) (fun c_9 => ?_) (fun c_9 => ?_)
          · have c_9 : 0 ≤ y8.toInt := il_le c_9
            refine lv_iload_n hx hb dX12_copy_51 rfl (lv_at hl 2 rfl) ?_
            refine lv_if_lt (tgt := 95) hx hb dX12_copy_52 (by decide) (fun c_10 => ?_) (fun c_10 => ?_)
            · have c_10 : vi.toInt < 0 := il_lt c_10
              refine lv_aload_n hx hb dX12_copy_95 rfl (lv_at hl 0 rfl) ?_
              refine lv_iconst (v := 2) hx hb dX12_copy_96 (by decide) ?_
              have hFc := fr_all (wR_D mu hD) hS hA
              refine va_calli (va_runV (As := [.int 2]) (rest := []) ⟨hx, hb, hml, hown, hts⟩ (sm_meet l dC dI cs ad mu ok s.heap hP ((wR_D mu hD).weaken (fun _ _ _ _ => trivial)) 2 (by have h50 : (2 : Int32).toInt = 2 := rfl; omega)) (cwV 1 hts (wU_V mw_5_193 mw_5_190 mw_5_192 mw_0_26 mw_1_13) rfl rfl rfl (by decide +kernel) ⟨Nat.le_of_ble_eq_true rfl, Nat.le_of_ble_eq_true rfl⟩) ⟨sz_c, va_recv hK hP (ci := 12) (q0 := 0) rfl (gM_0 cs ad mu), sz_m hK hz⟩ rfl rfl hl.1 rfl (lv_room (Nat.le_of_ble_eq_true rfl)) dX12_copy_97 ⟨Nat.zero_le _, Nat.zero_le _⟩) hS (fun q _ h => hFc q h) hFc (fun r11 xi11 t H11 locs ht hvm hw11 hB hz1 hk1 hS => ?_)
              have hP : va_P (dC, dI) vwCl (wR 21 ad (EM cs ad) xi11) H11 := by rw [← ht]; exact hB
              obtain ⟨hfe11, ok, hw11, hkp11_0⟩ := hw11
              have kp12 : (∀ k f : Nat, Nat.testBit 510 (gpM k f) = true → xi11 k f = mu k f) := kp_t hkp11_0 (by decide) (fun _ _ _ => rfl)
              have gr11 : -3 ≤ r11.toInt ∧ r11.toInt ≤ -3 := hw11
              exact W.iret (v := r11) hx hb hr (fun t ht hW => ⟨⟨r11, xi11, rfl, ⟨ok, trivial, kp12⟩, by first | (subst ht; exact hP) | (rw [ht]; exact hP) | (show va_P (dC, dI) vwCl (wR 21 ad (EM cs ad) xi11) t.heap; rw [ht]; exact hP)⟩, hS.F ht⟩) hS.2.2 dX12_copy_100
            · have c_10 : 0 ≤ vi.toInt := il_nlt c_10
              refine lv_iload hx hb dX12_copy_55 (lv_at hl 4 rfl) ?_
              refine lv_if_lt (tgt := 95) hx hb dX12_copy_57 (by decide) (fun c_13 => ?_) (fun c_13 => ?_)
              · have c_13 : vj.toInt < 0 := il_lt c_13
                refine lv_aload_n hx hb dX12_copy_95 rfl (lv_at hl 0 rfl) ?_
                refine lv_iconst (v := 2) hx hb dX12_copy_96 (by decide) ?_
                have hFc := fr_all (wR_D mu hD) hS hA
                refine va_calli (va_runV (As := [.int 2]) (rest := []) ⟨hx, hb, hml, hown, hts⟩ (sm_meet l dC dI cs ad mu ok s.heap hP ((wR_D mu hD).weaken (fun _ _ _ _ => trivial)) 2 (by have h50 : (2 : Int32).toInt = 2 := rfl; omega)) (cwV 1 hts (wU_V mw_5_193 mw_5_190 mw_5_192 mw_0_26 mw_1_13) rfl rfl rfl (by decide +kernel) ⟨Nat.le_of_ble_eq_true rfl, Nat.le_of_ble_eq_true rfl⟩) ⟨sz_c, va_recv hK hP (ci := 12) (q0 := 0) rfl (gM_0 cs ad mu), sz_m hK hz⟩ rfl rfl hl.1 rfl (lv_room (Nat.le_of_ble_eq_true rfl)) dX12_copy_97 ⟨Nat.zero_le _, Nat.zero_le _⟩) hS (fun q _ h => hFc q h) hFc (fun r14 xi14 t H14 locs ht hvm hw14 hB hz1 hk1 hS => ?_)
                have hP : va_P (dC, dI) vwCl (wR 21 ad (EM cs ad) xi14) H14 := by rw [← ht]; exact hB
                obtain ⟨hfe14, ok, hw14, hkp14_0⟩ := hw14
                have kp15 : (∀ k f : Nat, Nat.testBit 510 (gpM k f) = true → xi14 k f = mu k f) := kp_t hkp14_0 (by decide) (fun _ _ _ => rfl)
                have gr14 : -3 ≤ r14.toInt ∧ r14.toInt ≤ -3 := hw14
                exact W.iret (v := r14) hx hb hr (fun t ht hW => ⟨⟨r14, xi14, rfl, ⟨ok, trivial, kp15⟩, by first | (subst ht; exact hP) | (rw [ht]; exact hP) | (show va_P (dC, dI) vwCl (wR 21 ad (EM cs ad) xi14) t.heap; rw [ht]; exact hP)⟩, hS.F ht⟩) hS.2.2 dX12_copy_100
              · have c_13 : 0 ≤ vj.toInt := il_nlt c_13
                refine lv_iload_n hx hb dX12_copy_60 rfl (lv_at hl 2 rfl) ?_
                refine lv_i2l hx hb dX12_copy_61 rfl ?_
                refine lv_topl (fun l16 el16 => ?_)
                refine lv_iload hx hb dX12_copy_62 (lv_at hl 5 rfl) ?_
                refine lv_i2l hx hb dX12_copy_64 rfl ?_
                refine lv_topl (fun l17 el17 => ?_)
                refine lv_ladd hx hb dX12_copy_65 ?_
                refine lv_topl (fun l18 el18 => ?_)
                refine lv_aload_n hx hb dX12_copy_66 rfl (lv_at hl 0 rfl) ?_
                refine va_get (D := (dC, dI)) (ci := 12) (v := .ref (ad 2)) (C := RX12) (T := TX12) (N := 46) hx hb hts inG12 hown hK hP 0 (gM_0 cs ad mu) rfl 3 (by decide) (hts _ (List.mem_cons_of_mem _ mw_5_44)) (fun _ h9 => h9) rfl dX12_copy_67 ?_
                refine lv_iload_n hx hb dX12_copy_70 rfl (lv_at hl 1 rfl) ?_
                refine va_iald hx hb hK hP 2 0 (gM_2 cs ad mu) rfl (show vp_in vr 6 from vi_of (by omega) (by omega)) dX12_copy_71 ?_
                refine lq_i y4 ey4.symm ?_
                refine lv_i2l hx hb dX12_copy_72 rfl ?_
                refine lv_topl (fun l19 el19 => ?_)
                refine W.lcmp hx hb dX12_copy_73 ?_
                refine lv_topi (fun t20 et20 => ?_)
                have gt20 := lc_add (x := vi) (y := vn) (z := y4) et20 el16 el17 el18 el19
                refine lv_if_gt (tgt := 95) hx hb dX12_copy_74 (by decide) (fun c_21 => ?_) (fun c_21 => ?_)
                · have c_21 : 0 < t20.toInt := il_lt c_21
                  refine lv_aload_n hx hb dX12_copy_95 rfl (lv_at hl 0 rfl) ?_
                  refine lv_iconst (v := 2) hx hb dX12_copy_96 (by decide) ?_
                  have hFc := fr_all (wR_D mu hD) hS hA
                  refine va_calli (va_runV (As := [.int 2]) (rest := []) ⟨hx, hb, hml, hown, hts⟩ (sm_meet l dC dI cs ad mu ok s.heap hP ((wR_D mu hD).weaken (fun _ _ _ _ => trivial)) 2 (by have h50 : (2 : Int32).toInt = 2 := rfl; omega)) (cwV 1 hts (wU_V mw_5_193 mw_5_190 mw_5_192 mw_0_26 mw_1_13) rfl rfl rfl (by decide +kernel) ⟨Nat.le_of_ble_eq_true rfl, Nat.le_of_ble_eq_true rfl⟩) ⟨sz_c, va_recv hK hP (ci := 12) (q0 := 0) rfl (gM_0 cs ad mu), sz_m hK hz⟩ rfl rfl hl.1 rfl (lv_room (Nat.le_of_ble_eq_true rfl)) dX12_copy_97 ⟨Nat.zero_le _, Nat.zero_le _⟩) hS (fun q _ h => hFc q h) hFc (fun r22 xi22 t H22 locs ht hvm hw22 hB hz1 hk1 hS => ?_)
                  have hP : va_P (dC, dI) vwCl (wR 21 ad (EM cs ad) xi22) H22 := by rw [← ht]; exact hB
                  obtain ⟨hfe22, ok, hw22, hkp22_0⟩ := hw22
                  have kp23 : (∀ k f : Nat, Nat.testBit 510 (gpM k f) = true → xi22 k f = mu k f) := kp_t hkp22_0 (by decide) (fun _ _ _ => rfl)
                  have gr22 : -3 ≤ r22.toInt ∧ r22.toInt ≤ -3 := hw22
                  exact W.iret (v := r22) hx hb hr (fun t ht hW => ⟨⟨r22, xi22, rfl, ⟨ok, trivial, kp23⟩, by first | (subst ht; exact hP) | (rw [ht]; exact hP) | (show va_P (dC, dI) vwCl (wR 21 ad (EM cs ad) xi22) t.heap; rw [ht]; exact hP)⟩, hS.F ht⟩) hS.2.2 dX12_copy_100
                · have c_21 : t20.toInt ≤ 0 := il_nlt c_21
                  refine lv_iload hx hb dX12_copy_77 (lv_at hl 4 rfl) ?_
                  refine lv_i2l hx hb dX12_copy_79 rfl ?_
                  refine lv_topl (fun l24 el24 => ?_)
                  refine lv_iload hx hb dX12_copy_80 (lv_at hl 5 rfl) ?_
                  refine lv_i2l hx hb dX12_copy_82 rfl ?_
                  refine lv_topl (fun l25 el25 => ?_)
                  refine lv_ladd hx hb dX12_copy_83 ?_
                  refine lv_topl (fun l26 el26 => ?_)
                  refine lv_aload_n hx hb dX12_copy_84 rfl (lv_at hl 0 rfl) ?_
                  refine va_get (D := (dC, dI)) (ci := 12) (v := .ref (ad 2)) (C := RX12) (T := TX12) (N := 46) hx hb hts inG12 hown hK hP 0 (gM_0 cs ad mu) rfl 3 (by decide) (hts _ (List.mem_cons_of_mem _ mw_5_44)) (fun _ h9 => h9) rfl dX12_copy_85 ?_
                  refine lv_iload_n hx hb dX12_copy_88 rfl (lv_at hl 3 rfl) ?_
                  refine va_iald hx hb hK hP 2 0 (gM_2 cs ad mu) rfl (show vp_in vt 6 from vi_of (by omega) (by omega)) dX12_copy_89 ?_
                  refine lq_i y8 ey8.symm ?_
                  refine lv_i2l hx hb dX12_copy_90 rfl ?_
                  refine lv_topl (fun l27 el27 => ?_)
                  refine W.lcmp hx hb dX12_copy_91 ?_
                  refine lv_topi (fun t28 et28 => ?_)
                  have gt28 := lc_add (x := vj) (y := vn) (z := y8) et28 el24 el25 el26 el27
                  refine lv_if_le (tgt := 101) hx hb dX12_copy_92 (by decide) (fun c_29 => ?_) (fun c_29 => ?_)
                  · have c_29 : t28.toInt ≤ 0 := il_le c_29
                    refine lv_iconst (v := 0) hx hb dX12_copy_101 (by decide) ?_
                    refine lv_istore (lv' := [(6, .int 0), (0, .ref (ad 0)), (1, .int vr), (2, .int vi), (3, .int vt), (4, .int vj), (5, .int vn)]) hx hb dX12_copy_102 hl (by decide) rfl (fun ls hl => ?_)
                    have loop104 : ∀ (n104 : Nat) (v6_104 : Int32) (nu104_ : Nat → Nat → Int32) (H : Heap) (locs : List Loc) (ls : Array Slot), (40 + 1 - v6_104.toInt).toNat < n104 → (0 ≤ v6_104.toInt ∧ v6_104.toInt ≤ 40) → okR loM hiM nu104_ → va_P (dC, dI) vwCl (wR 21 ad (EM cs ad) nu104_) H → (∀ k f : Nat, Nat.testBit 510 (gpM k f) = true → nu104_ k f = mu k f) → va_S (va_A (wR 21 ad (EM cs ad) mu) s.heap.size) s.heap H locs → lv_has ls 7 [(6, .int v6_104), (0, .ref (ad 0)), (1, .int vr), (2, .int vi), (3, .int vt), (4, .int vj), (5, .int vn)] → W p l e (headSpec (wU yX12_copy cX12_copy 7 (some .int)) ({ frames := 2, cells := 0, slots := 0, locals := 42 })).room s m ([.ref (ad 0), .int vr, .int vi, .int vt, .int vj, .int vn] : List Value).toArray below meth c H locs 0 0 (MQ below (va_Qi (fun (z : Int32) (xi : Nat → Nat → Int32) => okR loM hiM xi ∧ (True) ∧ (∀ k f : Nat, Nat.testBit 510 (gpM k f) = true → xi k f = mu k f)) (fun xi t => va_P (dC, dI) vwCl (wR 21 ad (EM cs ad) xi) t.heap) (va_A (wR 21 ad (EM cs ad) mu) s.heap.size)) ([.ref (ad 0), .int vr, .int vi, .int vt, .int vj, .int vn] : List Value).toArray s 0 0 (va_A (wR 21 ad (EM cs ad) mu) s.heap.size)) (F0 m 104 ls []) := by
                      intro n104
                      induction n104 with
                      | zero => intro v6_104 nu104_ H locs ls hm; exact absurd hm (Nat.not_lt_zero _)
                      | succ n104 ih104 =>
                        intro v6_104 nu104_ H locs ls hm_104 h_v6_104 ok hP kq104_0 hS hl
                        refine lv_iload hx hb dX12_copy_104 (lv_at hl 0 rfl) ?_
                        refine lv_iload hx hb dX12_copy_106 (lv_at hl 6 rfl) ?_
                        refine lv_icmp_ge (tgt := 133) hx hb dX12_copy_108 (by decide) (fun c_30 => ?_) (fun c_30 => ?_)
                        · have c_30 : vn.toInt ≤ v6_104.toInt := il_le c_30
                          refine lv_iconst (v := 0) hx hb dX12_copy_133 (by decide) ?_
                          refine lv_istore (lv' := [(6, .int 0), (0, .ref (ad 0)), (1, .int vr), (2, .int vi), (3, .int vt), (4, .int vj), (5, .int vn)]) hx hb dX12_copy_134 hl (by decide) rfl (fun ls hl => ?_)
                          have loop136 : ∀ (n136 : Nat) (v6_136 : Int32) (nu136_ : Nat → Nat → Int32) (H : Heap) (locs : List Loc) (ls : Array Slot), (40 + 1 - v6_136.toInt).toNat < n136 → (0 ≤ v6_136.toInt ∧ v6_136.toInt ≤ 40) → okR loM hiM nu136_ → va_P (dC, dI) vwCl (wR 21 ad (EM cs ad) nu136_) H → (∀ k f : Nat, Nat.testBit 510 (gpM k f) = true → nu136_ k f = mu k f) → va_S (va_A (wR 21 ad (EM cs ad) mu) s.heap.size) s.heap H locs → lv_has ls 7 [(6, .int v6_136), (0, .ref (ad 0)), (1, .int vr), (2, .int vi), (3, .int vt), (4, .int vj), (5, .int vn)] → W p l e (headSpec (wU yX12_copy cX12_copy 7 (some .int)) ({ frames := 2, cells := 0, slots := 0, locals := 42 })).room s m ([.ref (ad 0), .int vr, .int vi, .int vt, .int vj, .int vn] : List Value).toArray below meth c H locs 0 0 (MQ below (va_Qi (fun (z : Int32) (xi : Nat → Nat → Int32) => okR loM hiM xi ∧ (True) ∧ (∀ k f : Nat, Nat.testBit 510 (gpM k f) = true → xi k f = mu k f)) (fun xi t => va_P (dC, dI) vwCl (wR 21 ad (EM cs ad) xi) t.heap) (va_A (wR 21 ad (EM cs ad) mu) s.heap.size)) ([.ref (ad 0), .int vr, .int vi, .int vt, .int vj, .int vn] : List Value).toArray s 0 0 (va_A (wR 21 ad (EM cs ad) mu) s.heap.size)) (F0 m 136 ls []) := by
                            intro n136
                            induction n136 with
                            | zero => intro v6_136 nu136_ H locs ls hm; exact absurd hm (Nat.not_lt_zero _)
                            | succ n136 ih136 =>
                              intro v6_136 nu136_ H locs ls hm_136 h_v6_136 ok hP kq136_0 hS hl
                              refine lv_iload hx hb dX12_copy_136 (lv_at hl 0 rfl) ?_
                              refine lv_iload hx hb dX12_copy_138 (lv_at hl 6 rfl) ?_
                              refine lv_icmp_ge (tgt := 166) hx hb dX12_copy_140 (by decide) (fun c_31 => ?_) (fun c_31 => ?_)
                              · have c_31 : vn.toInt ≤ v6_136.toInt := il_le c_31
                                refine lv_iconst (v := 1) hx hb dX12_copy_166 (by decide) ?_
                                exact W.iret (v := 1) hx hb hr (fun t ht hW => ⟨⟨1, nu136_, rfl, ⟨ok, trivial, kq136_0⟩, by first | (subst ht; exact hP) | (rw [ht]; exact hP) | (show va_P (dC, dI) vwCl (wR 21 ad (EM cs ad) nu136_) t.heap; rw [ht]; exact hP)⟩, hS.F ht⟩) hS.2.2 dX12_copy_167
                              · have c_31 : v6_136.toInt < vn.toInt := il_nle c_31
                                refine lv_aload_n hx hb dX12_copy_143 rfl (lv_at hl 1 rfl) ?_
                                refine lv_iload_n hx hb dX12_copy_144 rfl (lv_at hl 4 rfl) ?_
                                refine lv_iload hx hb dX12_copy_145 (lv_at hl 5 rfl) ?_
                                refine lv_iload hx hb dX12_copy_147 (lv_at hl 0 rfl) ?_
                                refine lv_iadd hx hb dX12_copy_149 ?_
                                refine lv_topi (fun t32 et32 => ?_)
                                have at32 : t32.toInt = vj.toInt + v6_136.toInt := by rw [et32]; exact tI_add (rfl : vj.toInt = _) (rfl : v6_136.toInt = _) (by omega) (by omega)
                                refine lv_aload_n hx hb dX12_copy_150 rfl (lv_at hl 1 rfl) ?_
                                refine va_get (D := (dC, dI)) (ci := 12) (v := .ref (ad 4)) (C := RX12) (T := TX12) (N := 46) hx hb hts inG12 hown hK hP 0 (gM_0 cs ad nu136_) rfl 5 (by decide) (hts _ (List.mem_cons_of_mem _ mw_5_46)) (fun _ h9 => h9) rfl dX12_copy_151 ?_
                                refine lv_iload hx hb dX12_copy_154 (lv_at hl 0 rfl) ?_
                                refine va_iald hx hb hK hP 4 0 (gM_4 cs ad nu136_) rfl (show vp_in v6_136 40 from vi_of (by omega) (by omega)) dX12_copy_156 ?_
                                refine lv_topi (fun y33 ey33 => ?_)
                                have by33 : y33.toInt = (nu136_ 4 v6_136.toNatClampNeg).toInt := congrArg Int32.toInt ey33
                                have hFc := fr_all (wR_D nu136_ hD) hS hA
                                refine va_callv (va_runV (As := [.int vt, .int t32, .int y33]) (rest := []) ⟨hx, hb, hml, hown, hts⟩ (sm_setRow l dC dI cs ad nu136_ ok H hP ((wR_D nu136_ hD).weaken (fun _ _ _ _ => trivial)) vt t32 y33 (by omega)) (cwV 3 hts (wU_V mw_5_197 mw_5_194 mw_5_196 mw_0_27 mw_1_13) rfl rfl rfl (by decide +kernel) ⟨Nat.le_of_ble_eq_true rfl, Nat.le_of_ble_eq_true rfl⟩) ⟨sz_c, va_recv hK hP (ci := 12) (q0 := 0) rfl (gM_0 cs ad nu136_), sz_m hK hz⟩ rfl rfl hl.1 rfl (lv_room (Nat.le_of_ble_eq_true rfl)) dX12_copy_157 ⟨Nat.zero_le _, Nat.zero_le _⟩) hS (fun q _ h => hFc q h) hFc (fun xi34 t H34 locs ht hvm hw34 hB hz1 hk1 hS => ?_)
                                have hP : va_P (dC, dI) vwCl (wR 21 ad (EM cs ad) xi34) H34 := by rw [← ht]; exact hB
                                obtain ⟨hfe34, ok, hw34, hkp34_0⟩ := hw34
                                have kp35 : (∀ k f : Nat, Nat.testBit 510 (gpM k f) = true → xi34 k f = mu k f) := kp_t hkp34_0 (by decide) kq136_0
                                refine lv_iinc (v := (v6_136 + 1)) (lv' := [(6, .int (v6_136 + 1)), (0, .ref (ad 0)), (1, .int vr), (2, .int vi), (3, .int vt), (4, .int vj), (5, .int vn)]) hx hb dX12_copy_160 hl (k := 0) rfl rfl (by decide) rfl (fun ls hl => ?_)
                                refine loc_gen (P := fun w9 => lv_has ls 7 [(6, .int w9), (0, .ref (ad 0)), (1, .int vr), (2, .int vi), (3, .int vt), (4, .int vj), (5, .int vn)]) (v6_136 + 1) hl (fun w36 hw36 hl => ?_)
                                have hl : lv_has ls 7 [(6, .int w36), (0, .ref (ad 0)), (1, .int vr), (2, .int vi), (3, .int vt), (4, .int vj), (5, .int vn)] := hl
                                have aw36 : w36.toInt = v6_136.toInt + 1 := by rw [← hw36]; first | exact va1 (Int.lt_of_le_of_lt h_v6_136.2 (by decide)) | exact va1 (by omega)
                                refine lv_goto (tgt := 136) hx hb dX12_copy_163 (by decide) ?_
                                exact ih136 (w36) xi34 _ _ _ (by first | exact ms_up hm_136 aw36 h_v6_136.2 | exact ms_lt hm_136 (by omega) (by omega) | omega) (by first | exact rg_up aw36 h_v6_136 (by omega) | omega)  ok hP  kp35 hS (lv_sub hl [0, 1, 2, 3, 4, 5, 6] rfl)
                          exact loop136 ((40 + 1 - (0 : Int32).toInt).toNat + 1) (0) nu104_ _ _ _ (Nat.lt_succ_self _) (by have h80 : (0 : Int32).toInt = 0 := rfl; exact ⟨by omega, by omega⟩)  ok hP  kq104_0 hS hl
                        · have c_30 : v6_104.toInt < vn.toInt := il_nle c_30
                          refine lv_aload_n hx hb dX12_copy_111 rfl (lv_at hl 1 rfl) ?_
                          refine va_get (D := (dC, dI)) (ci := 12) (v := .ref (ad 4)) (C := RX12) (T := TX12) (N := 46) hx hb hts inG12 hown hK hP 0 (gM_0 cs ad nu104_) rfl 5 (by decide) (hts _ (List.mem_cons_of_mem _ mw_5_46)) (fun _ h9 => h9) rfl dX12_copy_112 ?_
                          refine lv_iload hx hb dX12_copy_115 (lv_at hl 0 rfl) ?_
                          refine lv_aload_n hx hb dX12_copy_117 rfl (lv_at hl 1 rfl) ?_
                          refine lv_iload_n hx hb dX12_copy_118 rfl (lv_at hl 2 rfl) ?_
                          refine lv_iload_n hx hb dX12_copy_119 rfl (lv_at hl 3 rfl) ?_
                          refine lv_iload hx hb dX12_copy_120 (lv_at hl 0 rfl) ?_
                          refine lv_iadd hx hb dX12_copy_122 ?_
                          refine lv_topi (fun t37 et37 => ?_)
                          have at37 : t37.toInt = vi.toInt + v6_104.toInt := by rw [et37]; exact tI_add (rfl : vi.toInt = _) (rfl : v6_104.toInt = _) (by omega) (by omega)
                          refine cr_i (va_runV (As := [.int vr, .int t37]) (rest := [.int v6_104, .ref (ad 4)]) ⟨hx, hb, hml, hown, hts⟩ (sm_rowAt l dC dI cs ad nu104_ ok H hP vr t37 (by omega)) (cwV 2 hts (wU_V mw_5_209 mw_5_206 mw_5_208 mw_0_29 mw_1_13) rfl rfl rfl (by decide +kernel) ⟨Nat.le_of_ble_eq_true rfl, Nat.le_of_ble_eq_true rfl⟩) ⟨sz_c, va_recv hK hP (ci := 12) (q0 := 0) rfl (gM_0 cs ad nu104_), sz_m hK hz⟩ rfl rfl hl.1 rfl (lv_room (Nat.le_of_ble_eq_true rfl)) dX12_copy_123 ⟨Nat.zero_le _, Nat.zero_le _⟩) hS (fun r38 hw38 locs hS => ?_)
                          obtain ⟨hfe38, hw38⟩ := hw38
                          refine va_iast hx hb hK hP (wR_D nu104_ hD) hS 4 0 (gM_4 cs ad nu104_) rfl (show vp_in v6_104 40 from vi_of (by omega) (by omega)) dX12_copy_126 (fun H locs hP _ hS => ?_)
                          refine wr_gen (upd (nu104_ 4) v6_104.toNatClampNeg r38) hP (rfl) (fun nu39 hn39 hP => ?_)
                          have ok := tM_4_s ok v6_104.toNatClampNeg hn39
                          have kp40 : (∀ k f : Nat, Nat.testBit 510 (gpM k f) = true → nu39 k f = mu k f) := kp_c 0 hn39 (fun _ => rfl) (by decide) kq104_0
                          refine lv_iinc (v := (v6_104 + 1)) (lv' := [(6, .int (v6_104 + 1)), (0, .ref (ad 0)), (1, .int vr), (2, .int vi), (3, .int vt), (4, .int vj), (5, .int vn)]) hx hb dX12_copy_127 hl (k := 0) rfl rfl (by decide) rfl (fun ls hl => ?_)
                          refine loc_gen (P := fun w9 => lv_has ls 7 [(6, .int w9), (0, .ref (ad 0)), (1, .int vr), (2, .int vi), (3, .int vt), (4, .int vj), (5, .int vn)]) (v6_104 + 1) hl (fun w41 hw41 hl => ?_)
                          have hl : lv_has ls 7 [(6, .int w41), (0, .ref (ad 0)), (1, .int vr), (2, .int vi), (3, .int vt), (4, .int vj), (5, .int vn)] := hl
                          have aw41 : w41.toInt = v6_104.toInt + 1 := by rw [← hw41]; first | exact va1 (Int.lt_of_le_of_lt h_v6_104.2 (by decide)) | exact va1 (by omega)
                          refine lv_goto (tgt := 104) hx hb dX12_copy_130 (by decide) ?_
                          exact ih104 (w41) nu39 _ _ _ (by first | exact ms_up hm_104 aw41 h_v6_104.2 | exact ms_lt hm_104 (by omega) (by omega) | omega) (by first | exact rg_up aw41 h_v6_104 (by omega) | omega)  ok hP  kp40 hS (lv_sub hl [0, 1, 2, 3, 4, 5, 6] rfl)
                    exact loop104 ((40 + 1 - (0 : Int32).toInt).toNat + 1) (0) mu _ _ _ (Nat.lt_succ_self _) (by have h80 : (0 : Int32).toInt = 0 := rfl; exact ⟨by omega, by omega⟩)  ok hP  (fun _ _ _ => rfl) hS hl
                  · have c_29 : 0 < t28.toInt := il_nle c_29
                    refine lv_aload_n hx hb dX12_copy_95 rfl (lv_at hl 0 rfl) ?_
                    refine lv_iconst (v := 2) hx hb dX12_copy_96 (by decide) ?_
                    have hFc := fr_all (wR_D mu hD) hS hA
                    refine va_calli (va_runV (As := [.int 2]) (rest := []) ⟨hx, hb, hml, hown, hts⟩ (sm_meet l dC dI cs ad mu ok s.heap hP ((wR_D mu hD).weaken (fun _ _ _ _ => trivial)) 2 (by have h50 : (2 : Int32).toInt = 2 := rfl; omega)) (cwV 1 hts (wU_V mw_5_193 mw_5_190 mw_5_192 mw_0_26 mw_1_13) rfl rfl rfl (by decide +kernel) ⟨Nat.le_of_ble_eq_true rfl, Nat.le_of_ble_eq_true rfl⟩) ⟨sz_c, va_recv hK hP (ci := 12) (q0 := 0) rfl (gM_0 cs ad mu), sz_m hK hz⟩ rfl rfl hl.1 rfl (lv_room (Nat.le_of_ble_eq_true rfl)) dX12_copy_97 ⟨Nat.zero_le _, Nat.zero_le _⟩) hS (fun q _ h => hFc q h) hFc (fun r42 xi42 t H42 locs ht hvm hw42 hB hz1 hk1 hS => ?_)
                    have hP : va_P (dC, dI) vwCl (wR 21 ad (EM cs ad) xi42) H42 := by rw [← ht]; exact hB
                    obtain ⟨hfe42, ok, hw42, hkp42_0⟩ := hw42
                    have kp43 : (∀ k f : Nat, Nat.testBit 510 (gpM k f) = true → xi42 k f = mu k f) := kp_t hkp42_0 (by decide) (fun _ _ _ => rfl)
                    have gr42 : -3 ≤ r42.toInt ∧ r42.toInt ≤ -3 := hw42
                    exact W.iret (v := r42) hx hb hr (fun t ht hW => ⟨⟨r42, xi42, rfl, ⟨ok, trivial, kp43⟩, by first | (subst ht; exact hP) | (rw [ht]; exact hP) | (show va_P (dC, dI) vwCl (wR 21 ad (EM cs ad) xi42) t.heap; rw [ht]; exact hP)⟩, hS.F ht⟩) hS.2.2 dX12_copy_100
          · have c_9 : y8.toInt < 0 := il_nle c_9
            refine lv_aload_n hx hb dX12_copy_45 rfl (lv_at hl 0 rfl) ?_
            refine lv_iconst (v := 1) hx hb dX12_copy_46 (by decide) ?_
            have hFc := fr_all (wR_D mu hD) hS hA
            refine va_calli (va_runV (As := [.int 1]) (rest := []) ⟨hx, hb, hml, hown, hts⟩ (sm_meet l dC dI cs ad mu ok s.heap hP ((wR_D mu hD).weaken (fun _ _ _ _ => trivial)) 1 (by have h50 : (1 : Int32).toInt = 1 := rfl; omega)) (cwV 1 hts (wU_V mw_5_193 mw_5_190 mw_5_192 mw_0_26 mw_1_13) rfl rfl rfl (by decide +kernel) ⟨Nat.le_of_ble_eq_true rfl, Nat.le_of_ble_eq_true rfl⟩) ⟨sz_c, va_recv hK hP (ci := 12) (q0 := 0) rfl (gM_0 cs ad mu), sz_m hK hz⟩ rfl rfl hl.1 rfl (lv_room (Nat.le_of_ble_eq_true rfl)) dX12_copy_47 ⟨Nat.zero_le _, Nat.zero_le _⟩) hS (fun q _ h => hFc q h) hFc (fun r44 xi44 t H44 locs ht hvm hw44 hB hz1 hk1 hS => ?_)
            have hP : va_P (dC, dI) vwCl (wR 21 ad (EM cs ad) xi44) H44 := by rw [← ht]; exact hB
            obtain ⟨hfe44, ok, hw44, hkp44_0⟩ := hw44
            have kp45 : (∀ k f : Nat, Nat.testBit 510 (gpM k f) = true → xi44 k f = mu k f) := kp_t hkp44_0 (by decide) (fun _ _ _ => rfl)
            have gr44 : -3 ≤ r44.toInt ∧ r44.toInt ≤ -3 := hw44
            exact W.iret (v := r44) hx hb hr (fun t ht hW => ⟨⟨r44, xi44, rfl, ⟨ok, trivial, kp45⟩, by first | (subst ht; exact hP) | (rw [ht]; exact hP) | (show va_P (dC, dI) vwCl (wR 21 ad (EM cs ad) xi44) t.heap; rw [ht]; exact hP)⟩, hS.F ht⟩) hS.2.2 dX12_copy_50
      · have c_3 : vn.toInt < 0 := il_nle c_3
        refine lv_aload_n hx hb dX12_copy_21 rfl (lv_at hl 0 rfl) ?_
        refine lv_iconst (v := 5) hx hb dX12_copy_22 (by decide) ?_
        have hFc := fr_all (wR_D mu hD) hS hA
        refine va_calli (va_runV (As := [.int 5]) (rest := []) ⟨hx, hb, hml, hown, hts⟩ (sm_meet l dC dI cs ad mu ok s.heap hP ((wR_D mu hD).weaken (fun _ _ _ _ => trivial)) 5 (by have h50 : (5 : Int32).toInt = 5 := rfl; omega)) (cwV 1 hts (wU_V mw_5_193 mw_5_190 mw_5_192 mw_0_26 mw_1_13) rfl rfl rfl (by decide +kernel) ⟨Nat.le_of_ble_eq_true rfl, Nat.le_of_ble_eq_true rfl⟩) ⟨sz_c, va_recv hK hP (ci := 12) (q0 := 0) rfl (gM_0 cs ad mu), sz_m hK hz⟩ rfl rfl hl.1 rfl (lv_room (Nat.le_of_ble_eq_true rfl)) dX12_copy_23 ⟨Nat.zero_le _, Nat.zero_le _⟩) hS (fun q _ h => hFc q h) hFc (fun r46 xi46 t H46 locs ht hvm hw46 hB hz1 hk1 hS => ?_)
        have hP : va_P (dC, dI) vwCl (wR 21 ad (EM cs ad) xi46) H46 := by rw [← ht]; exact hB
        obtain ⟨hfe46, ok, hw46, hkp46_0⟩ := hw46
        have kp47 : (∀ k f : Nat, Nat.testBit 510 (gpM k f) = true → xi46 k f = mu k f) := kp_t hkp46_0 (by decide) (fun _ _ _ => rfl)
        have gr46 : -3 ≤ r46.toInt ∧ r46.toInt ≤ -3 := hw46
        exact W.iret (v := r46) hx hb hr (fun t ht hW => ⟨⟨r46, xi46, rfl, ⟨ok, trivial, kp47⟩, by first | (subst ht; exact hP) | (rw [ht]; exact hP) | (show va_P (dC, dI) vwCl (wR 21 ad (EM cs ad) xi46) t.heap; rw [ht]; exact hP)⟩, hS.F ht⟩) hS.2.2 dX12_copy_26
    · have f2 : vt.toInt < 0 ∨ 5 < vt.toInt := f2
      refine lv_if_ne (tgt := 16) hx hb dX12_copy_11 (by decide) (fun c => absurd (by decide) c) (fun _ => ?_)
      refine lv_iconst (v := (-1)) hx hb dX12_copy_14 (by decide) ?_
      exact W.iret (v := (-1)) hx hb hr (fun t ht hW => ⟨⟨(-1), mu, rfl, ⟨ok, trivial, (fun _ _ _ => rfl)⟩, by first | (subst ht; exact hP) | (rw [ht]; exact hP) | (show va_P (dC, dI) vwCl (wR 21 ad (EM cs ad) mu) t.heap; rw [ht]; exact hP)⟩, hS.F ht⟩) hS.2.2 dX12_copy_15
  · have f1 : vr.toInt < 0 ∨ 5 < vr.toInt := f1
    refine lv_if_eq (tgt := 14) hx hb dX12_copy_4 (by decide) (fun _ => ?_) (fun c => absurd (by decide) c)
    refine lv_iconst (v := (-1)) hx hb dX12_copy_14 (by decide) ?_
    exact W.iret (v := (-1)) hx hb hr (fun t ht hW => ⟨⟨(-1), mu, rfl, ⟨ok, trivial, (fun _ _ _ => rfl)⟩, by first | (subst ht; exact hP) | (rw [ht]; exact hP) | (show va_P (dC, dI) vwCl (wR 21 ad (EM cs ad) mu) t.heap; rw [ht]; exact hP)⟩, hS.F ht⟩) hS.2.2 dX12_copy_15
set_option maxHeartbeats 4000000 in
set_option maxRecDepth 100000 in
/-- qm_mean -/
theorem qm_mean (l : Launch) (dC : Nat → ClassId) (dI : Nat → Nat → Nat) (cs : Nat → ClassId) (ad : Nat → Nat) (mu : Nat → Nat → Int32) (ok : okR loM hiM mu) (H : Heap) (hP : va_P (dC, dI) vwCl (wR 21 ad (EM cs ad) mu) H) (hD0 : va_D (fun _ => True) (wR 21 ad (EM cs ad) mu)) (vr : Int32) : Met l yX12_mean (wU yX12_mean cX12_mean 6 (some .int)) ({ frames := 3, cells := 0, slots := 0, locals := 63 }) (va_Pc [.ref (ad 0), .int vr] (sz_P (dC, dI) vwCl (tyM cs) H)) (va_Qi (fun (z : Int32) (xi : Nat → Nat → Int32) => okR loM hiM xi ∧ (True) ∧ (∀ k f : Nat, Nat.testBit 510 (gpM k f) = true → xi k f = mu k f)) (fun xi t => va_P (dC, dI) vwCl (wR 21 ad (EM cs ad) xi) t.heap) (va_A (wR 21 ad (EM cs ad) mu) H.size)) 0 0 (va_A (wR 21 ad (EM cs ad) mu) H.size) := by
  refine Met.ofW (cc := cX12_mean) (maxL := 6) (ret := (some .int)) (by decide) rfl ?_
  intro p e s m args below meth c s₁ B hml hv
  obtain ⟨rfl, hh, hK, hz⟩ := hv
  have hx := B.exec
  have hb := B.bytes
  have hr := B.returns
  have hts := atoms_spec (ws := (wU yX12_mean cX12_mean 6 (some .int))) B.pre
  have hown : s.vm.findClass RX12 = some m.cls := findClass_of_methodNamed B.named
  have hlocks := B.notSynchronized
  subst hh
  have hD := hD0.self (sz := s.heap.size)
  have hA : ∀ q : Nat, s.heap.size ≤ q → (va_A (wR 21 ad (EM cs ad) mu) s.heap.size) q := fun q h => Or.inr h
  have hS : va_S (va_A (wR 21 ad (EM cs ad) mu) s.heap.size) s.heap s.heap [] := va_S.rf
  have hl := lv_entry ([.ref (ad 0), .int vr]) (n := 6) (Nat.le_of_ble_eq_true rfl)
  rw [lg_entry_eq]
  generalize (lg_sl ([.ref (ad 0), .int vr]) ++ List.replicate (6 - (lg_sl ([.ref (ad 0), .int vr])).length) Slot.unset).toArray = ls at hl ⊢
  have hl : lv_has ls 6 [(0, .ref (ad 0)), (1, .int vr)] := hl
  refine lv_aload_n hx hb dX12_mean_0 rfl (lv_at hl 0 rfl) ?_
  refine lv_iload_n hx hb dX12_mean_1 rfl (lv_at hl 1 rfl) ?_
  have hFc := fr_all (wR_D mu hD) hS hA
  refine va_calli (va_runV (As := [.int vr]) (rest := []) ⟨hx, hb, hml, hown, hts⟩ (sm_askedRow l dC dI cs ad mu ok s.heap hP ((wR_D mu hD).weaken (fun _ _ _ _ => trivial)) vr) (cwV 1 hts (wU_V mw_5_205 mw_5_202 mw_5_204 mw_0_28 mw_1_13) rfl rfl rfl (by decide +kernel) ⟨Nat.le_of_ble_eq_true rfl, Nat.le_of_ble_eq_true rfl⟩) ⟨sz_c, va_recv hK hP (ci := 12) (q0 := 0) rfl (gM_0 cs ad mu), sz_m hK hz⟩ rfl rfl hl.1 rfl (lv_room (Nat.le_of_ble_eq_true rfl)) dX12_mean_2 ⟨Nat.zero_le _, Nat.zero_le _⟩) hS (fun q _ h => hFc q h) hFc (fun r1 xi1 t H1 locs ht hvm hw1 hB hz1 hk1 hS => ?_)
  have hP : va_P (dC, dI) vwCl (wR 21 ad (EM cs ad) xi1) H1 := by rw [← ht]; exact hB
  obtain ⟨hfe1, hw1⟩ := hw1
  rcases hw1 with ⟨rfl, hxi1, f1⟩ | ⟨z1, ok, hkp1_0⟩
  · have hP : va_P (dC, dI) vwCl (wR 21 ad (EM cs ad) mu) H1 := by rw [← hxi1]; exact hP
    have f1 : 0 ≤ vr.toInt ∧ vr.toInt ≤ 5 ∧ 0 ≤ (mu 2 vr.toNatClampNeg).toInt := f1
    refine lv_istore_n (lv' := [(2, .int 0), (0, .ref (ad 0)), (1, .int vr)]) hx hb dX12_mean_5 rfl hl (by decide) rfl (fun ls hl => ?_)
    refine lv_iload_n hx hb dX12_mean_6 rfl (lv_at hl 0 rfl) ?_
    refine lv_if_ge (tgt := 12) hx hb dX12_mean_7 (by decide) (fun _ => ?_) (fun c => absurd (by decide) c)
    refine lv_lconst (v := 0) hx hb dX12_mean_12 (by decide) ?_
    refine lv_lstore_n (lv' := [(3, .long 0), (2, .int 0), (0, .ref (ad 0)), (1, .int vr)]) hx hb dX12_mean_13 rfl hl (by decide) rfl (fun ls hl => ?_)
    refine lv_iconst (v := 0) hx hb dX12_mean_14 (by decide) ?_
    refine lv_istore (lv' := [(5, .int 0), (3, .long 0), (2, .int 0), (0, .ref (ad 0)), (1, .int vr)]) hx hb dX12_mean_15 hl (by decide) rfl (fun ls hl => ?_)
    have loop17 : ∀ (n17 : Nat) (v3_17 : Int64) (v5_17 : Int32) (nu17_ : Nat → Nat → Int32) (H : Heap) (locs : List Loc) (ls : Array Slot), (40 + 1 - v5_17.toInt).toNat < n17 → (0 ≤ v5_17.toInt ∧ v5_17.toInt ≤ 40) → okR loM hiM nu17_ → va_P (dC, dI) vwCl (wR 21 ad (EM cs ad) nu17_) H → (∀ k f : Nat, Nat.testBit 510 (gpM k f) = true → nu17_ k f = mu k f) → va_S (va_A (wR 21 ad (EM cs ad) mu) s.heap.size) s.heap H locs → lv_has ls 6 [(5, .int v5_17), (3, .long v3_17), (2, .int 0), (0, .ref (ad 0)), (1, .int vr)] → W p l e (headSpec (wU yX12_mean cX12_mean 6 (some .int)) ({ frames := 3, cells := 0, slots := 0, locals := 63 })).room s m ([.ref (ad 0), .int vr] : List Value).toArray below meth c H locs 0 0 (MQ below (va_Qi (fun (z : Int32) (xi : Nat → Nat → Int32) => okR loM hiM xi ∧ (True) ∧ (∀ k f : Nat, Nat.testBit 510 (gpM k f) = true → xi k f = mu k f)) (fun xi t => va_P (dC, dI) vwCl (wR 21 ad (EM cs ad) xi) t.heap) (va_A (wR 21 ad (EM cs ad) mu) s.heap.size)) ([.ref (ad 0), .int vr] : List Value).toArray s 0 0 (va_A (wR 21 ad (EM cs ad) mu) s.heap.size)) (F0 m 17 ls []) := by
      intro n17
      induction n17 with
      | zero => intro v3_17 v5_17 nu17_ H locs ls hm; exact absurd hm (Nat.not_lt_zero _)
      | succ n17 ih17 =>
        intro v3_17 v5_17 nu17_ H locs ls hm_17 h_v5_17 ok hP kq17_0 hS hl
        refine lv_iload hx hb dX12_mean_17 (lv_at hl 0 rfl) ?_
        refine lv_aload_n hx hb dX12_mean_19 rfl (lv_at hl 3 rfl) ?_
        refine va_get (D := (dC, dI)) (ci := 12) (v := .ref (ad 2)) (C := RX12) (T := TX12) (N := 46) hx hb hts inG12 hown hK hP 0 (gM_0 cs ad nu17_) rfl 3 (by decide) (hts _ (List.mem_cons_of_mem _ mw_5_44)) (fun _ h9 => h9) rfl dX12_mean_20 ?_
        refine lv_iload_n hx hb dX12_mean_23 rfl (lv_at hl 4 rfl) ?_
        refine va_iald hx hb hK hP 2 0 (gM_2 cs ad nu17_) rfl (show vp_in vr 6 from vi_of (by omega) (by omega)) dX12_mean_24 ?_
        refine lv_topi (fun y3 ey3 => ?_)
        have by3 : y3.toInt = (nu17_ 2 vr.toNatClampNeg).toInt := congrArg Int32.toInt ey3
        have gy3 : -9 ≤ y3.toInt ∧ y3.toInt ≤ 40 := by rw [ey3]; exact rM_2_s ok vr.toNatClampNeg
        refine lv_icmp_ge (tgt := 45) hx hb dX12_mean_25 (by decide) (fun c_4 => ?_) (fun c_4 => ?_)
        · have c_4 : y3.toInt ≤ v5_17.toInt := il_le c_4
          refine lv_aload_n hx hb dX12_mean_45 rfl (lv_at hl 3 rfl) ?_
          refine va_get (D := (dC, dI)) (ci := 12) (v := .ref (ad 2)) (C := RX12) (T := TX12) (N := 46) hx hb hts inG12 hown hK hP 0 (gM_0 cs ad nu17_) rfl 3 (by decide) (hts _ (List.mem_cons_of_mem _ mw_5_44)) (fun _ h9 => h9) rfl dX12_mean_46 ?_
          refine lv_iload_n hx hb dX12_mean_49 rfl (lv_at hl 4 rfl) ?_
          refine va_iald hx hb hK hP 2 0 (gM_2 cs ad nu17_) rfl (show vp_in vr 6 from vi_of (by omega) (by omega)) dX12_mean_50 ?_
          refine lq_i y3 ey3.symm ?_
          refine lv_if_ne (tgt := 62) hx hb dX12_mean_51 (by decide) (fun c_5 => ?_) (fun c_5 => ?_)
          · have c_5 : ¬ y3.toInt = 0 := il_ne c_5
            refine lv_aload_n hx hb dX12_mean_62 rfl (lv_at hl 3 rfl) ?_
            refine lv_lload_n hx hb dX12_mean_63 rfl (lv_at hl 1 rfl) ?_
            refine lv_aload_n hx hb dX12_mean_64 rfl (lv_at hl 3 rfl) ?_
            refine va_get (D := (dC, dI)) (ci := 12) (v := .ref (ad 2)) (C := RX12) (T := TX12) (N := 46) hx hb hts inG12 hown hK hP 0 (gM_0 cs ad nu17_) rfl 3 (by decide) (hts _ (List.mem_cons_of_mem _ mw_5_44)) (fun _ h9 => h9) rfl dX12_mean_65 ?_
            refine lv_iload_n hx hb dX12_mean_68 rfl (lv_at hl 4 rfl) ?_
            refine va_iald hx hb hK hP 2 0 (gM_2 cs ad nu17_) rfl (show vp_in vr 6 from vi_of (by omega) (by omega)) dX12_mean_69 ?_
            refine lq_i y3 ey3.symm ?_
            refine lv_i2l hx hb dX12_mean_70 rfl ?_
            refine lv_topl (fun l6 el6 => ?_)
            refine lv_ldiv hx hb dX12_mean_71 (by rw [el6]; exact l_ne (by omega)) ?_
            refine lv_topl (fun l7 el7 => ?_)
            refine lv_l2i hx hb dX12_mean_72 rfl ?_
            refine lv_topi (fun t8 et8 => ?_)
            refine lv_iconst (v := 1) hx hb dX12_mean_73 (by decide) ?_
            have hFc := fr_all (wR_D nu17_ hD) hS hA
            refine va_calli (va_runV (As := [.int t8, .int 1]) (rest := []) ⟨hx, hb, hml, hown, hts⟩ (sm_ask l dC dI cs ad nu17_ ok H hP ((wR_D nu17_ hD).weaken (fun _ _ _ _ => trivial)) t8 1) (cwV 2 hts (wU_V mw_5_213 mw_5_210 mw_5_212 mw_0_30 mw_1_13) rfl rfl rfl (by decide +kernel) ⟨Nat.le_of_ble_eq_true rfl, Nat.le_of_ble_eq_true rfl⟩) ⟨sz_c, va_recv hK hP (ci := 12) (q0 := 0) rfl (gM_0 cs ad nu17_), sz_m hK hz⟩ rfl rfl hl.1 rfl (lv_room (Nat.le_of_ble_eq_true rfl)) dX12_mean_74 ⟨Nat.zero_le _, Nat.zero_le _⟩) hS (fun q _ h => hFc q h) hFc (fun r9 xi9 t H9 locs ht hvm hw9 hB hz1 hk1 hS => ?_)
            have hP : va_P (dC, dI) vwCl (wR 21 ad (EM cs ad) xi9) H9 := by rw [← ht]; exact hB
            obtain ⟨hfe9, ok, hw9, hkp9_0⟩ := hw9
            have kp10 : (∀ k f : Nat, Nat.testBit 510 (gpM k f) = true → xi9 k f = mu k f) := kp_t hkp9_0 (by decide) kq17_0
            have gr9 : r9.toInt = (1 : Int) := hw9
            exact W.iret (v := r9) hx hb hr (fun t ht hW => ⟨⟨r9, xi9, rfl, ⟨ok, trivial, kp10⟩, by first | (subst ht; exact hP) | (rw [ht]; exact hP) | (show va_P (dC, dI) vwCl (wR 21 ad (EM cs ad) xi9) t.heap; rw [ht]; exact hP)⟩, hS.F ht⟩) hS.2.2 dX12_mean_77
          · have c_5 : y3.toInt = 0 := il_eq c_5
            refine lv_aload_n hx hb dX12_mean_54 rfl (lv_at hl 3 rfl) ?_
            refine lv_iconst (v := 4) hx hb dX12_mean_55 (by decide) ?_
            have hFc := fr_all (wR_D nu17_ hD) hS hA
            refine va_calli (va_runV (As := [.int 4]) (rest := []) ⟨hx, hb, hml, hown, hts⟩ (sm_meet l dC dI cs ad nu17_ ok H hP ((wR_D nu17_ hD).weaken (fun _ _ _ _ => trivial)) 4 (by have h50 : (4 : Int32).toInt = 4 := rfl; omega)) (cwV 1 hts (wU_V mw_5_193 mw_5_190 mw_5_192 mw_0_26 mw_1_13) rfl rfl rfl (by decide +kernel) ⟨Nat.le_of_ble_eq_true rfl, Nat.le_of_ble_eq_true rfl⟩) ⟨sz_c, va_recv hK hP (ci := 12) (q0 := 0) rfl (gM_0 cs ad nu17_), sz_m hK hz⟩ rfl rfl hl.1 rfl (lv_room (Nat.le_of_ble_eq_true rfl)) dX12_mean_56 ⟨Nat.zero_le _, Nat.zero_le _⟩) hS (fun q _ h => hFc q h) hFc (fun r11 xi11 t H11 locs ht hvm hw11 hB hz1 hk1 hS => ?_)
            have hP : va_P (dC, dI) vwCl (wR 21 ad (EM cs ad) xi11) H11 := by rw [← ht]; exact hB
            obtain ⟨hfe11, ok, hw11, hkp11_0⟩ := hw11
            have kp12 : (∀ k f : Nat, Nat.testBit 510 (gpM k f) = true → xi11 k f = mu k f) := kp_t hkp11_0 (by decide) kq17_0
            have gr11 : -3 ≤ r11.toInt ∧ r11.toInt ≤ -3 := hw11
            refine lv_goto (tgt := 77) hx hb dX12_mean_59 (by decide) ?_
            exact W.iret (v := r11) hx hb hr (fun t ht hW => ⟨⟨r11, xi11, rfl, ⟨ok, trivial, kp12⟩, by first | (subst ht; exact hP) | (rw [ht]; exact hP) | (show va_P (dC, dI) vwCl (wR 21 ad (EM cs ad) xi11) t.heap; rw [ht]; exact hP)⟩, hS.F ht⟩) hS.2.2 dX12_mean_77
        · have c_4 : v5_17.toInt < y3.toInt := il_nle c_4
          refine lv_lload_n hx hb dX12_mean_28 rfl (lv_at hl 1 rfl) ?_
          refine lv_aload_n hx hb dX12_mean_29 rfl (lv_at hl 3 rfl) ?_
          refine lv_iload_n hx hb dX12_mean_30 rfl (lv_at hl 4 rfl) ?_
          refine lv_iload hx hb dX12_mean_31 (lv_at hl 0 rfl) ?_
          refine cr_i (va_runV (As := [.int vr, .int v5_17]) (rest := [.long v3_17]) ⟨hx, hb, hml, hown, hts⟩ (sm_rowAt l dC dI cs ad nu17_ ok H hP vr v5_17 (by omega)) (cwV 2 hts (wU_V mw_5_209 mw_5_206 mw_5_208 mw_0_29 mw_1_13) rfl rfl rfl (by decide +kernel) ⟨Nat.le_of_ble_eq_true rfl, Nat.le_of_ble_eq_true rfl⟩) ⟨sz_c, va_recv hK hP (ci := 12) (q0 := 0) rfl (gM_0 cs ad nu17_), sz_m hK hz⟩ rfl rfl hl.1 rfl (lv_room (Nat.le_of_ble_eq_true rfl)) dX12_mean_33 ⟨Nat.zero_le _, Nat.zero_le _⟩) hS (fun r13 hw13 locs hS => ?_)
          obtain ⟨hfe13, hw13⟩ := hw13
          refine lv_i2l hx hb dX12_mean_36 rfl ?_
          refine lv_topl (fun l14 el14 => ?_)
          refine lv_ladd hx hb dX12_mean_37 ?_
          refine lv_topl (fun l15 el15 => ?_)
          refine lv_lstore_n (lv' := [(3, .long l15), (5, .int v5_17), (2, .int 0), (0, .ref (ad 0)), (1, .int vr)]) hx hb dX12_mean_38 rfl hl (by decide) rfl (fun ls hl => ?_)
          refine lv_iinc (v := (v5_17 + 1)) (lv' := [(5, .int (v5_17 + 1)), (3, .long l15), (2, .int 0), (0, .ref (ad 0)), (1, .int vr)]) hx hb dX12_mean_39 hl (k := 1) rfl rfl (by decide) rfl (fun ls hl => ?_)
          refine loc_gen (P := fun w9 => lv_has ls 6 [(5, .int w9), (3, .long l15), (2, .int 0), (0, .ref (ad 0)), (1, .int vr)]) (v5_17 + 1) hl (fun w16 hw16 hl => ?_)
          have hl : lv_has ls 6 [(5, .int w16), (3, .long l15), (2, .int 0), (0, .ref (ad 0)), (1, .int vr)] := hl
          have aw16 : w16.toInt = v5_17.toInt + 1 := by rw [← hw16]; exact va1 (by omega)
          refine lv_goto (tgt := 17) hx hb dX12_mean_42 (by decide) ?_
          exact ih17 (l15) (w16) nu17_ _ _ _ (by first | exact ms_lt hm_17 (by omega) (by omega) | omega) (by omega)  ok hP  kq17_0 hS (lv_sub hl [0, 1, 2, 3, 4] rfl)
    exact loop17 ((40 + 1 - (0 : Int32).toInt).toNat + 1) (0) (0) mu _ _ _ (Nat.lt_succ_self _) (by have h80 : (0 : Int32).toInt = 0 := rfl; exact ⟨by omega, by omega⟩)  ok hP  (fun _ _ _ => rfl) hS hl
  · have kp2 : (∀ k f : Nat, Nat.testBit 510 (gpM k f) = true → xi1 k f = mu k f) := kp_t hkp1_0 (by decide) (fun _ _ _ => rfl)
    skip
    refine lv_istore_n (lv' := [(2, .int r1), (0, .ref (ad 0)), (1, .int vr)]) hx hb dX12_mean_5 rfl hl (by decide) rfl (fun ls hl => ?_)
    refine lv_iload_n hx hb dX12_mean_6 rfl (lv_at hl 0 rfl) ?_
    refine lv_if_ge (tgt := 12) hx hb dX12_mean_7 (by decide) (fun c_17 => by have c_17 : 0 ≤ r1.toInt := il_le c_17; exfalso; omega) (fun c_17 => ?_)
    have c_17 : r1.toInt < 0 := il_nle c_17
    refine lv_iload_n hx hb dX12_mean_10 rfl (lv_at hl 0 rfl) ?_
    exact W.iret (v := r1) hx hb hr (fun t ht hW => ⟨⟨r1, xi1, rfl, ⟨ok, trivial, kp2⟩, by first | (subst ht; exact hP) | (rw [ht]; exact hP) | (show va_P (dC, dI) vwCl (wR 21 ad (EM cs ad) xi1) t.heap; rw [ht]; exact hP)⟩, hS.F ht⟩) hS.2.2 dX12_mean_11
set_option maxHeartbeats 4000000 in
set_option maxRecDepth 100000 in
/-- qm_text -/
theorem qm_text (l : Launch) (dC : Nat → ClassId) (dI : Nat → Nat → Nat) (cs : Nat → ClassId) (ad : Nat → Nat) (mu : Nat → Nat → Int32) (ok : okR loM hiM mu) (H : Heap) (hP : va_P (dC, dI) vwCl (wR 21 ad (EM cs ad) mu) H) (hD0 : va_D (fun _ => True) (wR 21 ad (EM cs ad) mu)) (vt : Int32) (vn : Int32) : Met l yX12_text (wU yX12_text cX12_text 4 (some .int)) ({ frames := 2, cells := 0, slots := 0, locals := 42 }) (va_Pc [.ref (ad 0), .int vt, .int vn] (sz_P (dC, dI) vwCl (tyM cs) H)) (va_Qi (fun (z : Int32) (xi : Nat → Nat → Int32) => (z, xi) = F_qm_text mu vt vn ∧ okR loM hiM xi ∧ (((vt.toInt < 0 ∨ 3 < vt.toInt ∨ 80 < vn.toInt) ∧ z.toInt = -1) ∨ (0 ≤ vt.toInt ∧ vt.toInt ≤ 3 ∧ vn.toInt < 0 ∧ z.toInt = -3) ∨ (0 ≤ vt.toInt ∧ vt.toInt ≤ 3 ∧ 0 ≤ vn.toInt ∧ vn.toInt ≤ 80 ∧ z.toInt = vn.toInt)) ∧ (∀ k f : Nat, Nat.testBit 508 (gpM k f) = true → xi k f = mu k f)) (fun xi t => va_P (dC, dI) vwCl (wR 21 ad (EM cs ad) xi) t.heap) (va_A (wR 21 ad (EM cs ad) mu) H.size)) 0 0 (va_A (wR 21 ad (EM cs ad) mu) H.size) := by
  refine Met.ofW (cc := cX12_text) (maxL := 4) (ret := (some .int)) (by decide) rfl ?_
  intro p e s m args below meth c s₁ B hml hv
  obtain ⟨rfl, hh, hK, hz⟩ := hv
  have hx := B.exec
  have hb := B.bytes
  have hr := B.returns
  have hts := atoms_spec (ws := (wU yX12_text cX12_text 4 (some .int))) B.pre
  have hown : s.vm.findClass RX12 = some m.cls := findClass_of_methodNamed B.named
  have hlocks := B.notSynchronized
  subst hh
  have hD := hD0.self (sz := s.heap.size)
  have hA : ∀ q : Nat, s.heap.size ≤ q → (va_A (wR 21 ad (EM cs ad) mu) s.heap.size) q := fun q h => Or.inr h
  have hS : va_S (va_A (wR 21 ad (EM cs ad) mu) s.heap.size) s.heap s.heap [] := va_S.rf
  have hl := lv_entry ([.ref (ad 0), .int vt, .int vn]) (n := 4) (Nat.le_of_ble_eq_true rfl)
  rw [lg_entry_eq]
  generalize (lg_sl ([.ref (ad 0), .int vt, .int vn]) ++ List.replicate (4 - (lg_sl ([.ref (ad 0), .int vt, .int vn])).length) Slot.unset).toArray = ls at hl ⊢
  have hl : lv_has ls 4 [(0, .ref (ad 0)), (1, .int vt), (2, .int vn)] := hl
  obtain ⟨fz, hfz⟩ : ∃ z, F_qm_text mu vt vn = z := ⟨_, rfl⟩
  have hF := hfz
  unfold F_qm_text at hF
  refine lv_iload_n hx hb dX12_text_0 rfl (lv_at hl 1 rfl) ?_
  refine cr_i (va_runS (As := [.int vt]) (rest := []) ⟨hx, hb, hml, hown, hts⟩ (sm_isText l dC dI (tyM cs) s.heap vt) (va_cwS 1 hts (wU_S mw_5_237 mw_5_235 mw_5_236 mw_1_13) rfl rfl rfl (by decide +kernel) ⟨Nat.le_of_ble_eq_true rfl, Nat.le_of_ble_eq_true rfl⟩) ⟨sz_c, sz_m hK hz⟩ rfl rfl hl.1 rfl (lv_room (Nat.le_of_ble_eq_true rfl)) dX12_text_1 ⟨Nat.zero_le _, Nat.zero_le _⟩) hS (fun r1 hw1 locs hS => ?_)
  obtain ⟨hfe1, hw1⟩ := hw1
  rcases hw1 with ⟨rfl, f1⟩ | ⟨rfl, f1⟩
  · have hF := (if_pos hfe1.symm).symm.trans hF
    have f1 : 0 ≤ vt.toInt ∧ vt.toInt ≤ 3 := f1
    refine lv_if_eq (tgt := 13) hx hb dX12_text_4 (by decide) (fun c => absurd c (by decide)) (fun _ => ?_)
    refine lv_iload_n hx hb dX12_text_7 rfl (lv_at hl 2 rfl) ?_
    refine lv_bipush (v := 80) hx hb dX12_text_8 (by decide) ?_
    refine lv_icmp_le (tgt := 15) hx hb dX12_text_10 (by decide) (fun c_2 => ?_) (fun c_2 => ?_)
    · have hF := (if_pos c_2).symm.trans hF
      have c_2 : vn.toInt ≤ 80 := il_le c_2
      refine lv_iload_n hx hb dX12_text_15 rfl (lv_at hl 2 rfl) ?_
      refine lv_if_ge (tgt := 25) hx hb dX12_text_16 (by decide) (fun c_3 => ?_) (fun c_3 => ?_)
      · have hF := (if_pos c_3).symm.trans hF
        have c_3 : 0 ≤ vn.toInt := il_le c_3
        refine lv_aload_n hx hb dX12_text_25 rfl (lv_at hl 0 rfl) ?_
        refine va_get (D := (dC, dI)) (ci := 12) (v := .ref (ad 5)) (C := RX12) (T := TX12) (N := 46) hx hb hts inG12 hown hK hP 0 (gM_0 cs ad mu) rfl 6 (by decide) (hts _ (List.mem_cons_of_mem _ mw_5_47)) (fun _ h9 => h9) rfl dX12_text_26 ?_
        refine lv_iload_n hx hb dX12_text_29 rfl (lv_at hl 1 rfl) ?_
        refine lv_iload_n hx hb dX12_text_30 rfl (lv_at hl 2 rfl) ?_
        refine va_iast hx hb hK hP (wR_D mu hD) hS 5 0 (gM_5 cs ad mu) rfl (show vp_in vt 4 from vi_of (by omega) (by omega)) dX12_text_31 (fun H locs hP _ hS => ?_)
        refine wr_gen (upd (mu 5) vt.toNatClampNeg vn) hP (rfl) (fun nu4 hn4 hP => ?_)
        have hF := mi_let hF hn4.symm
        have ok := tM_5_s ok vt.toNatClampNeg hn4 (by omega)
        have kp5 : (∀ k f : Nat, Nat.testBit 508 (gpM k f) = true → nu4 k f = mu k f) := kp_c 1 hn4 (fun _ => rfl) (by decide) (fun _ _ _ => rfl)
        refine lv_iconst (v := 0) hx hb dX12_text_32 (by decide) ?_
        refine lv_istore_n (lv' := [(3, .int 0), (0, .ref (ad 0)), (1, .int vt), (2, .int vn)]) hx hb dX12_text_33 rfl hl (by decide) rfl (fun ls hl => ?_)
        have loop34 : ∀ (n34 : Nat) (v3_34 : Int32) (nu34_ : Nat → Nat → Int32) (H : Heap) (locs : List Loc) (ls : Array Slot), (80 + 1 - v3_34.toInt).toNat < n34 → (0 ≤ v3_34.toInt ∧ v3_34.toInt ≤ 80) → okR loM hiM nu34_ → va_P (dC, dI) vwCl (wR 21 ad (EM cs ad) nu34_) H → (∀ k f : Nat, Nat.testBit 508 (gpM k f) = true → nu34_ k f = mu k f) → L_qm_text_34_0 vn vt n34 v3_34 nu34_ = fz → va_S (va_A (wR 21 ad (EM cs ad) mu) s.heap.size) s.heap H locs → lv_has ls 4 [(3, .int v3_34), (0, .ref (ad 0)), (1, .int vt), (2, .int vn)] → W p l e (headSpec (wU yX12_text cX12_text 4 (some .int)) ({ frames := 2, cells := 0, slots := 0, locals := 42 })).room s m ([.ref (ad 0), .int vt, .int vn] : List Value).toArray below meth c H locs 0 0 (MQ below (va_Qi (fun (z : Int32) (xi : Nat → Nat → Int32) => (z, xi) = F_qm_text mu vt vn ∧ okR loM hiM xi ∧ (((vt.toInt < 0 ∨ 3 < vt.toInt ∨ 80 < vn.toInt) ∧ z.toInt = -1) ∨ (0 ≤ vt.toInt ∧ vt.toInt ≤ 3 ∧ vn.toInt < 0 ∧ z.toInt = -3) ∨ (0 ≤ vt.toInt ∧ vt.toInt ≤ 3 ∧ 0 ≤ vn.toInt ∧ vn.toInt ≤ 80 ∧ z.toInt = vn.toInt)) ∧ (∀ k f : Nat, Nat.testBit 508 (gpM k f) = true → xi k f = mu k f)) (fun xi t => va_P (dC, dI) vwCl (wR 21 ad (EM cs ad) xi) t.heap) (va_A (wR 21 ad (EM cs ad) mu) s.heap.size)) ([.ref (ad 0), .int vt, .int vn] : List Value).toArray s 0 0 (va_A (wR 21 ad (EM cs ad) mu) s.heap.size)) (F0 m 34 ls []) := by
          intro n34
          induction n34 with
          | zero => intro v3_34 nu34_ H locs ls hm; exact absurd hm (Nat.not_lt_zero _)
          | succ n34 ih34 =>
            intro v3_34 nu34_ H locs ls hm_34 h_v3_34 ok hP kq34_0 hF hS hl
            rw [L_qm_text_34_0] at hF
            refine lv_iload_n hx hb dX12_text_34 rfl (lv_at hl 0 rfl) ?_
            refine lv_bipush (v := 80) hx hb dX12_text_35 (by decide) ?_
            refine lv_icmp_ge (tgt := 59) hx hb dX12_text_37 (by decide) (fun c_6 => ?_) (fun c_6 => ?_)
            · have hF := (if_pos c_6).symm.trans hF
              have c_6 : 80 ≤ v3_34.toInt := il_le c_6
              refine lv_iload_n hx hb dX12_text_59 rfl (lv_at hl 3 rfl) ?_
              exact W.iret (v := vn) hx hb hr (fun t ht hW => ⟨⟨vn, nu34_, rfl, ⟨hF.trans hfz.symm, ok, (by omega), kq34_0⟩, by first | (subst ht; exact hP) | (rw [ht]; exact hP) | (show va_P (dC, dI) vwCl (wR 21 ad (EM cs ad) nu34_) t.heap; rw [ht]; exact hP)⟩, hS.F ht⟩) hS.2.2 dX12_text_60
            · have hF := (if_neg c_6).symm.trans hF
              have c_6 : v3_34.toInt < 80 := il_nle c_6
              refine lv_aload_n hx hb dX12_text_40 rfl (lv_at hl 1 rfl) ?_
              refine va_get (D := (dC, dI)) (ci := 12) (v := .ref (ad 6)) (C := RX12) (T := TX12) (N := 46) hx hb hts inG12 hown hK hP 0 (gM_0 cs ad nu34_) rfl 7 (by decide) (hts _ (List.mem_cons_of_mem _ mw_5_48)) (fun _ h9 => h9) rfl dX12_text_41 ?_
              refine lv_bipush (v := 80) hx hb dX12_text_44 (by decide) ?_
              refine lv_iload_n hx hb dX12_text_46 rfl (lv_at hl 2 rfl) ?_
              refine lv_imul hx hb dX12_text_47 ?_
              refine lv_topi (fun t7 et7 => ?_)
              have hF := mi_let hF et7
              have at7 : t7.toInt = 80 * vt.toInt := by rw [et7]; exact tI_mul (rfl : (80 : Int32).toInt = 80) (rfl : vt.toInt = _) (by omega) (by omega)
              refine lv_iload_n hx hb dX12_text_48 rfl (lv_at hl 0 rfl) ?_
              refine lv_iadd hx hb dX12_text_49 ?_
              refine lv_topi (fun t8 et8 => ?_)
              have hF := mi_let hF et8
              have at8 : t8.toInt = t7.toInt + v3_34.toInt := by rw [et8]; exact tI_add (rfl : t7.toInt = _) (rfl : v3_34.toInt = _) (by omega) (by omega)
              refine lv_bipush (v := 32) hx hb dX12_text_50 (by decide) ?_
              refine va_iast hx hb hK hP (wR_D nu34_ hD) hS 6 0 (gM_6 cs ad nu34_) rfl (show vp_in t8 320 from vi_of (by omega) (by omega)) dX12_text_52 (fun H locs hP _ hS => ?_)
              refine wr_gen (upd (nu34_ 6) t8.toNatClampNeg 32) hP (rfl) (fun nu9 hn9 hP => ?_)
              have hF := mi_let hF hn9.symm
              have ok := tM_6_s ok t8.toNatClampNeg hn9
              have kp10 : (∀ k f : Nat, Nat.testBit 508 (gpM k f) = true → nu9 k f = mu k f) := kp_c 1 hn9 (fun _ => rfl) (by decide) kq34_0
              refine lv_iinc (v := (v3_34 + 1)) (lv' := [(3, .int (v3_34 + 1)), (0, .ref (ad 0)), (1, .int vt), (2, .int vn)]) hx hb dX12_text_53 hl (k := 0) rfl rfl (by decide) rfl (fun ls hl => ?_)
              refine loc_gen (P := fun w9 => lv_has ls 4 [(3, .int w9), (0, .ref (ad 0)), (1, .int vt), (2, .int vn)]) (v3_34 + 1) hl (fun w11 hw11 hl => ?_)
              have hl : lv_has ls 4 [(3, .int w11), (0, .ref (ad 0)), (1, .int vt), (2, .int vn)] := hl
              have hF := mi_let hF hw11.symm
              have aw11 : w11.toInt = v3_34.toInt + 1 := by rw [← hw11]; first | exact va1 (Int.lt_of_le_of_lt h_v3_34.2 (by decide)) | exact va1 (by omega)
              refine lv_goto (tgt := 34) hx hb dX12_text_56 (by decide) ?_
              exact ih34 (w11) nu9 _ _ _ (by first | exact ms_up hm_34 aw11 h_v3_34.2 | exact ms_lt hm_34 (by omega) (by omega) | omega) (by first | exact rg_up aw11 h_v3_34 (by omega) | omega)  ok hP  kp10 hF hS (lv_sub hl [0, 1, 2, 3] rfl)
        exact loop34 83 (0) nu4 _ _ _ (by have h80 : (0 : Int32).toInt = 0 := rfl; omega) (by have h80 : (0 : Int32).toInt = 0 := rfl; exact ⟨by omega, by omega⟩)  ok hP  kp5 hF hS hl
      · have hF := (if_neg c_3).symm.trans hF
        have c_3 : vn.toInt < 0 := il_nle c_3
        refine lv_aload_n hx hb dX12_text_19 rfl (lv_at hl 0 rfl) ?_
        refine lv_iconst (v := 5) hx hb dX12_text_20 (by decide) ?_
        have hFc := fr_all (wR_D mu hD) hS hA
        refine va_calli (va_runV (As := [.int 5]) (rest := []) ⟨hx, hb, hml, hown, hts⟩ (sm_meet l dC dI cs ad mu ok s.heap hP ((wR_D mu hD).weaken (fun _ _ _ _ => trivial)) 5 (by have h50 : (5 : Int32).toInt = 5 := rfl; omega)) (cwV 1 hts (wU_V mw_5_193 mw_5_190 mw_5_192 mw_0_26 mw_1_13) rfl rfl rfl (by decide +kernel) ⟨Nat.le_of_ble_eq_true rfl, Nat.le_of_ble_eq_true rfl⟩) ⟨sz_c, va_recv hK hP (ci := 12) (q0 := 0) rfl (gM_0 cs ad mu), sz_m hK hz⟩ rfl rfl hl.1 rfl (lv_room (Nat.le_of_ble_eq_true rfl)) dX12_text_21 ⟨Nat.zero_le _, Nat.zero_le _⟩) hS (fun q _ h => hFc q h) hFc (fun r12 xi12 t H12 locs ht hvm hw12 hB hz1 hk1 hS => ?_)
        have hP : va_P (dC, dI) vwCl (wR 21 ad (EM cs ad) xi12) H12 := by rw [← ht]; exact hB
        obtain ⟨hfe12, ok, hw12, hkp12_0⟩ := hw12
        have hF := mi_letp hF hfe12
        have kp13 : (∀ k f : Nat, Nat.testBit 508 (gpM k f) = true → xi12 k f = mu k f) := kp_t hkp12_0 (by decide) (fun _ _ _ => rfl)
        have gr12 : -3 ≤ r12.toInt ∧ r12.toInt ≤ -3 := hw12
        exact W.iret (v := r12) hx hb hr (fun t ht hW => ⟨⟨r12, xi12, rfl, ⟨hF.trans hfz.symm, ok, (by omega), kp13⟩, by first | (subst ht; exact hP) | (rw [ht]; exact hP) | (show va_P (dC, dI) vwCl (wR 21 ad (EM cs ad) xi12) t.heap; rw [ht]; exact hP)⟩, hS.F ht⟩) hS.2.2 dX12_text_24
    · have hF := (if_neg c_2).symm.trans hF
      have c_2 : 80 < vn.toInt := il_nle c_2
      refine lv_iconst (v := (-1)) hx hb dX12_text_13 (by decide) ?_
      exact W.iret (v := (-1)) hx hb hr (fun t ht hW => ⟨⟨(-1), mu, rfl, ⟨hF.trans hfz.symm, ok, (by have h6 : ((-1) : Int32).toInt = -1 := rfl; omega), (fun _ _ _ => rfl)⟩, by first | (subst ht; exact hP) | (rw [ht]; exact hP) | (show va_P (dC, dI) vwCl (wR 21 ad (EM cs ad) mu) t.heap; rw [ht]; exact hP)⟩, hS.F ht⟩) hS.2.2 dX12_text_14
  · have hF := (if_neg (fun h => absurd (hfe1.trans h) (by decide))).symm.trans hF
    have f1 : vt.toInt < 0 ∨ 3 < vt.toInt := f1
    refine lv_if_eq (tgt := 13) hx hb dX12_text_4 (by decide) (fun _ => ?_) (fun c => absurd (by decide) c)
    refine lv_iconst (v := (-1)) hx hb dX12_text_13 (by decide) ?_
    exact W.iret (v := (-1)) hx hb hr (fun t ht hW => ⟨⟨(-1), mu, rfl, ⟨hF.trans hfz.symm, ok, (by have h6 : ((-1) : Int32).toInt = -1 := rfl; omega), (fun _ _ _ => rfl)⟩, by first | (subst ht; exact hP) | (rw [ht]; exact hP) | (show va_P (dC, dI) vwCl (wR 21 ad (EM cs ad) mu) t.heap; rw [ht]; exact hP)⟩, hS.F ht⟩) hS.2.2 dX12_text_14
set_option maxHeartbeats 4000000 in
set_option maxRecDepth 100000 in
/-- qm_put -/
theorem qm_put (l : Launch) (dC : Nat → ClassId) (dI : Nat → Nat → Nat) (cs : Nat → ClassId) (ad : Nat → Nat) (mu : Nat → Nat → Int32) (ok : okR loM hiM mu) (H : Heap) (hP : va_P (dC, dI) vwCl (wR 21 ad (EM cs ad) mu) H) (hD0 : va_D (fun _ => True) (wR 21 ad (EM cs ad) mu)) (vt : Int32) (vi : Int32) (vv : Int32) : Met l yX12_put (wU yX12_put cX12_put 6 (some .int)) ({ frames := 3, cells := 0, slots := 0, locals := 63 }) (va_Pc [.ref (ad 0), .int vt, .int vi, .int vv] (sz_P (dC, dI) vwCl (tyM cs) H)) (va_Qi (fun (z : Int32) (xi : Nat → Nat → Int32) => (z, xi) = F_qm_put mu vt vi vv ∧ okR loM hiM xi ∧ (True) ∧ (∀ k f : Nat, Nat.testBit 508 (gpM k f) = true → xi k f = mu k f)) (fun xi t => va_P (dC, dI) vwCl (wR 21 ad (EM cs ad) xi) t.heap) (va_A (wR 21 ad (EM cs ad) mu) H.size)) 0 0 (va_A (wR 21 ad (EM cs ad) mu) H.size) := by
  refine Met.ofW (cc := cX12_put) (maxL := 6) (ret := (some .int)) (by decide) rfl ?_
  intro p e s m args below meth c s₁ B hml hv
  obtain ⟨rfl, hh, hK, hz⟩ := hv
  have hx := B.exec
  have hb := B.bytes
  have hr := B.returns
  have hts := atoms_spec (ws := (wU yX12_put cX12_put 6 (some .int))) B.pre
  have hown : s.vm.findClass RX12 = some m.cls := findClass_of_methodNamed B.named
  have hlocks := B.notSynchronized
  subst hh
  have hD := hD0.self (sz := s.heap.size)
  have hA : ∀ q : Nat, s.heap.size ≤ q → (va_A (wR 21 ad (EM cs ad) mu) s.heap.size) q := fun q h => Or.inr h
  have hS : va_S (va_A (wR 21 ad (EM cs ad) mu) s.heap.size) s.heap s.heap [] := va_S.rf
  have hl := lv_entry ([.ref (ad 0), .int vt, .int vi, .int vv]) (n := 6) (Nat.le_of_ble_eq_true rfl)
  rw [lg_entry_eq]
  generalize (lg_sl ([.ref (ad 0), .int vt, .int vi, .int vv]) ++ List.replicate (6 - (lg_sl ([.ref (ad 0), .int vt, .int vi, .int vv])).length) Slot.unset).toArray = ls at hl ⊢
  have hl : lv_has ls 6 [(0, .ref (ad 0)), (1, .int vt), (2, .int vi), (3, .int vv)] := hl
  obtain ⟨fz, hfz⟩ : ∃ z, F_qm_put mu vt vi vv = z := ⟨_, rfl⟩
  have hF := hfz
  unfold F_qm_put at hF
  refine lv_aload_n hx hb dX12_put_0 rfl (lv_at hl 0 rfl) ?_
  refine lv_iload_n hx hb dX12_put_1 rfl (lv_at hl 1 rfl) ?_
  have hFc := fr_all (wR_D mu hD) hS hA
  refine va_calli (va_runV (As := [.int vt]) (rest := []) ⟨hx, hb, hml, hown, hts⟩ (sm_askedText l dC dI cs ad mu ok s.heap hP ((wR_D mu hD).weaken (fun _ _ _ _ => trivial)) vt) (cwV 1 hts (wU_V mw_6_5 mw_6_2 mw_6_4 mw_0_31 mw_1_13) rfl rfl rfl (by decide +kernel) ⟨Nat.le_of_ble_eq_true rfl, Nat.le_of_ble_eq_true rfl⟩) ⟨sz_c, va_recv hK hP (ci := 12) (q0 := 0) rfl (gM_0 cs ad mu), sz_m hK hz⟩ rfl rfl hl.1 rfl (lv_room (Nat.le_of_ble_eq_true rfl)) dX12_put_2 ⟨Nat.zero_le _, Nat.zero_le _⟩) hS (fun q _ h => hFc q h) hFc (fun r1 xi1 t H1 locs ht hvm hw1 hB hz1 hk1 hS => ?_)
  have hP : va_P (dC, dI) vwCl (wR 21 ad (EM cs ad) xi1) H1 := by rw [← ht]; exact hB
  obtain ⟨hfe1, hw1⟩ := hw1
  have hF := mi_letp hF hfe1
  rcases hw1 with ⟨rfl, hxi1, f1⟩ | ⟨z1, ok, hkp1_0⟩
  · have hF := (if_pos rfl).symm.trans hF
    have hP : va_P (dC, dI) vwCl (wR 21 ad (EM cs ad) mu) H1 := by rw [← hxi1]; exact hP
    have f1 : 0 ≤ vt.toInt ∧ vt.toInt ≤ 3 ∧ 0 ≤ (mu 5 vt.toNatClampNeg).toInt := f1
    refine lv_istore (lv' := [(4, .int 0), (0, .ref (ad 0)), (1, .int vt), (2, .int vi), (3, .int vv)]) hx hb dX12_put_5 hl (by decide) rfl (fun ls hl => ?_)
    refine lv_iload hx hb dX12_put_7 (lv_at hl 0 rfl) ?_
    refine lv_if_ge (tgt := 15) hx hb dX12_put_9 (by decide) (fun _ => ?_) (fun c => absurd (by decide) c)
    refine lv_iload_n hx hb dX12_put_15 rfl (lv_at hl 3 rfl) ?_
    refine lv_iconst (v := 0) hx hb dX12_put_16 (by decide) ?_
    refine lv_aload_n hx hb dX12_put_17 rfl (lv_at hl 1 rfl) ?_
    refine va_get (D := (dC, dI)) (ci := 12) (v := .ref (ad 5)) (C := RX12) (T := TX12) (N := 46) hx hb hts inG12 hown hK hP 0 (gM_0 cs ad mu) rfl 6 (by decide) (hts _ (List.mem_cons_of_mem _ mw_5_47)) (fun _ h9 => h9) rfl dX12_put_18 ?_
    refine lv_iload_n hx hb dX12_put_21 rfl (lv_at hl 2 rfl) ?_
    refine va_iald hx hb hK hP 5 0 (gM_5 cs ad mu) rfl (show vp_in vt 4 from vi_of (by omega) (by omega)) dX12_put_22 ?_
    refine lv_topi (fun y3 ey3 => ?_)
    have hF := mi_let hF ey3
    have by3 : y3.toInt = (mu 5 vt.toNatClampNeg).toInt := congrArg Int32.toInt ey3
    have gy3 : -9 ≤ y3.toInt ∧ y3.toInt ≤ 80 := by rw [ey3]; exact rM_5_s ok vt.toNatClampNeg
    refine lv_iconst (v := 1) hx hb dX12_put_23 (by decide) ?_
    refine lv_isub hx hb dX12_put_24 ?_
    refine lv_topi (fun t4 et4 => ?_)
    have hF := mi_let hF et4
    have at4 : t4.toInt = y3.toInt - 1 := by rw [et4]; exact tI_sub (rfl : y3.toInt = _) (rfl : (1 : Int32).toInt = 1) (by omega) (by omega)
    refine cr_i (va_runS (As := [.int vi, .int 0, .int t4]) (rest := []) ⟨hx, hb, hml, hown, hts⟩ (sm_in l dC dI (tyM cs) H1 vi 0 t4) (va_cwS 3 hts (wU_S mw_5_189 mw_5_187 mw_5_188 mw_1_13) rfl rfl rfl (by decide +kernel) ⟨Nat.le_of_ble_eq_true rfl, Nat.le_of_ble_eq_true rfl⟩) ⟨sz_c, sz_m hK hz⟩ rfl rfl hl.1 rfl (lv_room (Nat.le_of_ble_eq_true rfl)) dX12_put_25 ⟨Nat.zero_le _, Nat.zero_le _⟩) hS (fun r5 hw5 locs hS => ?_)
    obtain ⟨hfe5, hw5⟩ := hw5
    rcases hw5 with ⟨rfl, f5⟩ | ⟨rfl, f5⟩
    · have hF := (if_pos hfe5.symm).symm.trans hF
      have f5 : (0 : Int) ≤ vi.toInt ∧ vi.toInt ≤ t4.toInt := f5
      refine lv_if_ne (tgt := 37) hx hb dX12_put_28 (by decide) (fun _ => ?_) (fun c => absurd c (by decide))
      refine lv_aload_n hx hb dX12_put_37 rfl (lv_at hl 1 rfl) ?_
      refine va_get (D := (dC, dI)) (ci := 12) (v := .ref (ad 6)) (C := RX12) (T := TX12) (N := 46) hx hb hts inG12 hown hK hP 0 (gM_0 cs ad mu) rfl 7 (by decide) (hts _ (List.mem_cons_of_mem _ mw_5_48)) (fun _ h9 => h9) rfl dX12_put_38 ?_
      refine lv_bipush (v := 80) hx hb dX12_put_41 (by decide) ?_
      refine lv_iload_n hx hb dX12_put_43 rfl (lv_at hl 2 rfl) ?_
      refine lv_imul hx hb dX12_put_44 ?_
      refine lv_topi (fun t6 et6 => ?_)
      have hF := mi_let hF et6
      have at6 : t6.toInt = 80 * vt.toInt := by rw [et6]; exact tI_mul (rfl : (80 : Int32).toInt = 80) (rfl : vt.toInt = _) (by omega) (by omega)
      refine lv_iload_n hx hb dX12_put_45 rfl (lv_at hl 3 rfl) ?_
      refine lv_iadd hx hb dX12_put_46 ?_
      refine lv_topi (fun t7 et7 => ?_)
      have hF := mi_let hF et7
      have at7 : t7.toInt = t6.toInt + vi.toInt := by rw [et7]; exact tI_add (rfl : t6.toInt = _) (rfl : vi.toInt = _) (by omega) (by omega)
      refine va_iald hx hb hK hP 6 0 (gM_6 cs ad mu) rfl (show vp_in t7 320 from vi_of (by omega) (by omega)) dX12_put_47 ?_
      refine lv_topi (fun y8 ey8 => ?_)
      have hF := mi_let hF ey8
      have by8 : y8.toInt = (mu 6 t7.toNatClampNeg).toInt := congrArg Int32.toInt ey8
      refine lv_istore (lv' := [(5, .int y8), (4, .int 0), (0, .ref (ad 0)), (1, .int vt), (2, .int vi), (3, .int vv)]) hx hb dX12_put_48 hl (by decide) rfl (fun ls hl => ?_)
      refine lv_aload_n hx hb dX12_put_50 rfl (lv_at hl 2 rfl) ?_
      refine va_get (D := (dC, dI)) (ci := 12) (v := .ref (ad 6)) (C := RX12) (T := TX12) (N := 46) hx hb hts inG12 hown hK hP 0 (gM_0 cs ad mu) rfl 7 (by decide) (hts _ (List.mem_cons_of_mem _ mw_5_48)) (fun _ h9 => h9) rfl dX12_put_51 ?_
      refine lv_bipush (v := 80) hx hb dX12_put_54 (by decide) ?_
      refine lv_iload_n hx hb dX12_put_56 rfl (lv_at hl 3 rfl) ?_
      refine lv_imul hx hb dX12_put_57 ?_
      refine lv_topi (fun t9 et9 => ?_)
      have hF := mi_let hF et9
      have at9 : t9.toInt = 80 * vt.toInt := by rw [et9]; exact tI_mul (rfl : (80 : Int32).toInt = 80) (rfl : vt.toInt = _) (by omega) (by omega)
      refine lv_iload_n hx hb dX12_put_58 rfl (lv_at hl 4 rfl) ?_
      refine lv_iadd hx hb dX12_put_59 ?_
      refine lv_topi (fun t10 et10 => ?_)
      have hF := mi_let hF et10
      have at10 : t10.toInt = t9.toInt + vi.toInt := by rw [et10]; exact tI_add (rfl : t9.toInt = _) (rfl : vi.toInt = _) (by omega) (by omega)
      refine lv_iload_n hx hb dX12_put_60 rfl (lv_at hl 5 rfl) ?_
      refine lv_i2b hx hb dX12_put_61 rfl ?_
      refine lv_topi (fun t11 et11 => ?_)
      have hF := mi_let hF et11
      have gt11 : -128 ≤ t11.toInt ∧ t11.toInt ≤ 127 := by rw [et11]; exact tb_rng _
      refine va_iast hx hb hK hP (wR_D mu hD) hS 6 0 (gM_6 cs ad mu) rfl (show vp_in t10 320 from vi_of (by omega) (by omega)) dX12_put_62 (fun H locs hP _ hS => ?_)
      refine wr_gen (upd (mu 6) t10.toNatClampNeg t11) hP (rfl) (fun nu12 hn12 hP => ?_)
      have hF := mi_let hF hn12.symm
      have ok := tM_6_s ok t10.toNatClampNeg hn12
      have ez13 : y3 = nu12 5 vt.toNatClampNeg := ey3.trans (congrFun (up_k hn12 (by decide)) vt.toNatClampNeg).symm
      have kp14 : (∀ k f : Nat, Nat.testBit 508 (gpM k f) = true → nu12 k f = mu k f) := kp_c 1 hn12 (fun _ => rfl) (by decide) (fun _ _ _ => rfl)
      refine lv_iload hx hb dX12_put_63 (lv_at hl 0 rfl) ?_
      refine lv_sipush (v := 1000) hx hb dX12_put_65 (by decide) ?_
      refine lv_iadd hx hb dX12_put_68 ?_
      refine lv_topi (fun t15 et15 => ?_)
      have hF := mi_let hF et15
      exact W.iret (v := t15) hx hb hr (fun t ht hW => ⟨⟨t15, nu12, rfl, ⟨hF.trans hfz.symm, ok, trivial, kp14⟩, by first | (subst ht; exact hP) | (rw [ht]; exact hP) | (show va_P (dC, dI) vwCl (wR 21 ad (EM cs ad) nu12) t.heap; rw [ht]; exact hP)⟩, hS.F ht⟩) hS.2.2 dX12_put_69
    · have hF := (if_neg (fun h => absurd (hfe5.trans h) (by decide))).symm.trans hF
      have f5 : vi.toInt < (0 : Int) ∨ t4.toInt < vi.toInt := f5
      refine lv_if_ne (tgt := 37) hx hb dX12_put_28 (by decide) (fun c => absurd (by decide) c) (fun _ => ?_)
      refine lv_aload_n hx hb dX12_put_31 rfl (lv_at hl 1 rfl) ?_
      refine lv_iconst (v := 2) hx hb dX12_put_32 (by decide) ?_
      have hFc := fr_all (wR_D mu hD) hS hA
      refine va_calli (va_runV (As := [.int 2]) (rest := []) ⟨hx, hb, hml, hown, hts⟩ (sm_meet l dC dI cs ad mu ok H1 hP ((wR_D mu hD).weaken (fun _ _ _ _ => trivial)) 2 (by have h50 : (2 : Int32).toInt = 2 := rfl; omega)) (cwV 1 hts (wU_V mw_5_193 mw_5_190 mw_5_192 mw_0_26 mw_1_13) rfl rfl rfl (by decide +kernel) ⟨Nat.le_of_ble_eq_true rfl, Nat.le_of_ble_eq_true rfl⟩) ⟨sz_c, va_recv hK hP (ci := 12) (q0 := 0) rfl (gM_0 cs ad mu), sz_m hK hz⟩ rfl rfl hl.1 rfl (lv_room (Nat.le_of_ble_eq_true rfl)) dX12_put_33 ⟨Nat.zero_le _, Nat.zero_le _⟩) hS (fun q _ h => hFc q h) hFc (fun r16 xi16 t H16 locs ht hvm hw16 hB hz1 hk1 hS => ?_)
      have hP : va_P (dC, dI) vwCl (wR 21 ad (EM cs ad) xi16) H16 := by rw [← ht]; exact hB
      obtain ⟨hfe16, ok, hw16, hkp16_0⟩ := hw16
      have hF := mi_letp hF hfe16
      have kp17 : (∀ k f : Nat, Nat.testBit 508 (gpM k f) = true → xi16 k f = mu k f) := kp_t hkp16_0 (by decide) (fun _ _ _ => rfl)
      have gr16 : -3 ≤ r16.toInt ∧ r16.toInt ≤ -3 := hw16
      exact W.iret (v := r16) hx hb hr (fun t ht hW => ⟨⟨r16, xi16, rfl, ⟨hF.trans hfz.symm, ok, trivial, kp17⟩, by first | (subst ht; exact hP) | (rw [ht]; exact hP) | (show va_P (dC, dI) vwCl (wR 21 ad (EM cs ad) xi16) t.heap; rw [ht]; exact hP)⟩, hS.F ht⟩) hS.2.2 dX12_put_36
  · have hF := (if_neg (show ¬ r1 = 0 from fun h => by have h9 := congrArg Int32.toInt h; have h8 : (0 : Int32).toInt = 0 := rfl; omega)).symm.trans hF
    have kp2 : (∀ k f : Nat, Nat.testBit 508 (gpM k f) = true → xi1 k f = mu k f) := kp_t hkp1_0 (by decide) (fun _ _ _ => rfl)
    skip
    refine lv_istore (lv' := [(4, .int r1), (0, .ref (ad 0)), (1, .int vt), (2, .int vi), (3, .int vv)]) hx hb dX12_put_5 hl (by decide) rfl (fun ls hl => ?_)
    refine lv_iload hx hb dX12_put_7 (lv_at hl 0 rfl) ?_
    refine lv_if_ge (tgt := 15) hx hb dX12_put_9 (by decide) (fun c_18 => by have c_18 : 0 ≤ r1.toInt := il_le c_18; exfalso; omega) (fun c_18 => ?_)
    have c_18 : r1.toInt < 0 := il_nle c_18
    refine lv_iload hx hb dX12_put_12 (lv_at hl 0 rfl) ?_
    exact W.iret (v := r1) hx hb hr (fun t ht hW => ⟨⟨r1, xi1, rfl, ⟨hF.trans hfz.symm, ok, trivial, kp2⟩, by first | (subst ht; exact hP) | (rw [ht]; exact hP) | (show va_P (dC, dI) vwCl (wR 21 ad (EM cs ad) xi1) t.heap; rw [ht]; exact hP)⟩, hS.F ht⟩) hS.2.2 dX12_put_14
theorem mw_5_59 : (Cond.fieldLink RX12 112 "DearLettersModel" "readAt" "I" : Cond) ∈ lw_good := lg_at 5 59 rfl rfl
theorem mw_6_17 : (Cond.code yX12_here cX12_here 2 (some .int) : Cond) ∈ lw_good := lg_at 6 17 rfl rfl
theorem mw_6_14 : (Cond.methodLink RX12 115 yX12_here : Cond) ∈ lw_good := lg_at 6 14 rfl rfl
theorem mw_6_16 : (Cond.instanceMethod yX12_here : Cond) ∈ lw_good := lg_at 6 16 rfl rfl
theorem mw_0_33 : (Cond.selects RX12 yX12_here yX12_here : Cond) ∈ lw_good := lg_at 0 33 rfl rfl
theorem mw_6_28 : (Cond.code yX12_kindOf cX12_kindOf 1 (some .int) : Cond) ∈ lw_good := lg_at 6 28 rfl rfl
theorem mw_6_26 : (Cond.methodLink RX12 118 yX12_kindOf : Cond) ∈ lw_good := lg_at 6 26 rfl rfl
theorem mw_6_27 : (Cond.static yX12_kindOf : Cond) ∈ lw_good := lg_at 6 27 rfl rfl
theorem mw_5_61 : (Cond.fieldLink RX12 121 "DearLettersModel" "readPaths" "I" : Cond) ∈ lw_good := lg_at 5 61 rfl rfl
theorem mw_5_60 : (Cond.fieldLink RX12 124 "DearLettersModel" "readMany" "I" : Cond) ∈ lw_good := lg_at 5 60 rfl rfl
theorem mw_5_62 : (Cond.fieldLink RX12 40 "DearLettersModel" "readKinds" "[I" : Cond) ∈ lw_good := lg_at 5 62 rfl rfl
theorem mw_5_63 : (Cond.fieldLink RX12 43 "DearLettersModel" "readPurses" "[I" : Cond) ∈ lw_good := lg_at 5 63 rfl rfl
theorem mw_5_64 : (Cond.fieldLink RX12 46 "DearLettersModel" "readEnds" "[I" : Cond) ∈ lw_good := lg_at 5 64 rfl rfl
theorem mw_6_25 : (Cond.code yX12_readsBearer cX12_readsBearer 5 (some .boolean) : Cond) ∈ lw_good := lg_at 6 25 rfl rfl
theorem mw_6_22 : (Cond.methodLink RX12 130 yX12_readsBearer : Cond) ∈ lw_good := lg_at 6 22 rfl rfl
theorem mw_6_24 : (Cond.instanceMethod yX12_readsBearer : Cond) ∈ lw_good := lg_at 6 24 rfl rfl
theorem mw_0_35 : (Cond.selects RX12 yX12_readsBearer yX12_readsBearer : Cond) ∈ lw_good := lg_at 0 35 rfl rfl
theorem mw_6_21 : (Cond.code yX12_readsPath cX12_readsPath 5 (some .boolean) : Cond) ∈ lw_good := lg_at 6 21 rfl rfl
theorem mw_6_18 : (Cond.methodLink RX12 127 yX12_readsPath : Cond) ∈ lw_good := lg_at 6 18 rfl rfl
theorem mw_6_20 : (Cond.instanceMethod yX12_readsPath : Cond) ∈ lw_good := lg_at 6 20 rfl rfl
theorem mw_0_34 : (Cond.selects RX12 yX12_readsPath yX12_readsPath : Cond) ∈ lw_good := lg_at 0 34 rfl rfl
theorem mw_6_13 : (Cond.code yX12_goesOn cX12_goesOn 2 (some .int) : Cond) ∈ lw_good := lg_at 6 13 rfl rfl
theorem mw_6_10 : (Cond.methodLink RX12 133 yX12_goesOn : Cond) ∈ lw_good := lg_at 6 10 rfl rfl
theorem mw_6_12 : (Cond.instanceMethod yX12_goesOn : Cond) ∈ lw_good := lg_at 6 12 rfl rfl
theorem mw_0_32 : (Cond.selects RX12 yX12_goesOn yX12_goesOn : Cond) ∈ lw_good := lg_at 0 32 rfl rfl
theorem mw_5_49 : (Cond.fieldLink RX12 136 "DearLettersModel" "many" "I" : Cond) ∈ lw_good := lg_at 5 49 rfl rfl
theorem mw_5_52 : (Cond.fieldLink RX12 139 "DearLettersModel" "pathMany" "I" : Cond) ∈ lw_good := lg_at 5 52 rfl rfl
theorem mw_5_54 : (Cond.fieldLink RX12 142 "DearLettersModel" "snows" "I" : Cond) ∈ lw_good := lg_at 5 54 rfl rfl
theorem mw_5_55 : (Cond.fieldLink RX12 145 "DearLettersModel" "day" "I" : Cond) ∈ lw_good := lg_at 5 55 rfl rfl
theorem mw_5_56 : (Cond.fieldLink RX12 148 "DearLettersModel" "letterMany" "I" : Cond) ∈ lw_good := lg_at 5 56 rfl rfl
theorem mw_5_58 : (Cond.fieldLink RX12 151 "DearLettersModel" "saleMany" "I" : Cond) ∈ lw_good := lg_at 5 58 rfl rfl
theorem mw_5_66 : (Cond.fieldLink RX12 52 "DearLettersModel" "kept" "[I" : Cond) ∈ lw_good := lg_at 5 66 rfl rfl
theorem mw_5_53 : (Cond.fieldLink RX12 34 "DearLettersModel" "paths" "[I" : Cond) ∈ lw_good := lg_at 5 53 rfl rfl
theorem mw_5_50 : (Cond.fieldLink RX12 28 "DearLettersModel" "kinds" "[I" : Cond) ∈ lw_good := lg_at 5 50 rfl rfl
theorem mw_5_51 : (Cond.fieldLink RX12 31 "DearLettersModel" "purses" "[I" : Cond) ∈ lw_good := lg_at 5 51 rfl rfl
theorem rM_0_18 {mu : Nat → Nat → Int32} (ok : okR loM hiM mu) : 0 ≤ (mu 0 18).toInt ∧ (mu 0 18).toInt ≤ 90 := ok 0 18
theorem rM_0_19 {mu : Nat → Nat → Int32} (ok : okR loM hiM mu) : 0 ≤ (mu 0 19).toInt ∧ (mu 0 19).toInt ≤ 7 := ok 0 19
theorem rM_0_20 {mu : Nat → Nat → Int32} (ok : okR loM hiM mu) : 0 ≤ (mu 0 20).toInt ∧ (mu 0 20).toInt ≤ 12 := ok 0 20
theorem hM_0_18 (cs : Nat → ClassId) (ad : Nat → Nat) (g : Nat → Int32) (v : Int32) : EM cs ad 0 (upd g 18 v) = .inr (12, [.int (g 0), .ref (ad 1), .int (g 2), .ref (ad 2), .ref (ad 3), .ref (ad 4), .ref (ad 5), .ref (ad 6), .int (g 8), .ref (ad 7), .ref (ad 8), .int (g 11), .ref (ad 9), .int (g 13), .int (g 14), .int (g 15), .ref (ad 10), .int (g 17), .int v, .int (g 19), .int (g 20), .ref (ad 11), .ref (ad 12), .ref (ad 13), .ref (ad 14), .ref (ad 15), .ref (ad 16), .ref (ad 17), .ref (ad 18), .int (g 29), .int (g 30), .int (g 31), .int (g 32), .int (g 33), .int (g 34), .int (g 35), .int (g 36), .int (g 37), .int (g 38), .int (g 39), .ref (ad 19), .ref (ad 20), .int (g 42), .int (g 43), .int (g 44), .long (jn (g 45) (g 46))]) := by
  rfl
theorem tM_0_18 {mu : Nat → Nat → Int32} (ok : okR loM hiM mu) {nu : Nat → Nat → Int32} {v : Int32} (hn : va_up mu 0 (upd (mu 0) 18 v) = nu) (hv : 0 ≤ v.toInt ∧ v.toInt ≤ 90) : okR loM hiM nu := by
  subst hn
  exact okR_up ok 0 18 v hv.1 hv.2
theorem tM_11_s {mu : Nat → Nat → Int32} (ok : okR loM hiM mu) {nu : Nat → Nat → Int32} {v : Int32} (f : Nat) (hn : va_up mu 11 (upd (mu 11) f v) = nu) : okR loM hiM nu := by
  subst hn
  exact okR_up ok 11 f v (tI_lo v) (tI_hi v)
theorem tM_12_s {mu : Nat → Nat → Int32} (ok : okR loM hiM mu) {nu : Nat → Nat → Int32} {v : Int32} (f : Nat) (hn : va_up mu 12 (upd (mu 12) f v) = nu) : okR loM hiM nu := by
  subst hn
  exact okR_up ok 12 f v (tI_lo v) (tI_hi v)
theorem hM_0_19 (cs : Nat → ClassId) (ad : Nat → Nat) (g : Nat → Int32) (v : Int32) : EM cs ad 0 (upd g 19 v) = .inr (12, [.int (g 0), .ref (ad 1), .int (g 2), .ref (ad 2), .ref (ad 3), .ref (ad 4), .ref (ad 5), .ref (ad 6), .int (g 8), .ref (ad 7), .ref (ad 8), .int (g 11), .ref (ad 9), .int (g 13), .int (g 14), .int (g 15), .ref (ad 10), .int (g 17), .int (g 18), .int v, .int (g 20), .ref (ad 11), .ref (ad 12), .ref (ad 13), .ref (ad 14), .ref (ad 15), .ref (ad 16), .ref (ad 17), .ref (ad 18), .int (g 29), .int (g 30), .int (g 31), .int (g 32), .int (g 33), .int (g 34), .int (g 35), .int (g 36), .int (g 37), .int (g 38), .int (g 39), .ref (ad 19), .ref (ad 20), .int (g 42), .int (g 43), .int (g 44), .long (jn (g 45) (g 46))]) := by
  rfl
theorem tM_0_19 {mu : Nat → Nat → Int32} (ok : okR loM hiM mu) {nu : Nat → Nat → Int32} {v : Int32} (hn : va_up mu 0 (upd (mu 0) 19 v) = nu) (hv : 0 ≤ v.toInt ∧ v.toInt ≤ 7) : okR loM hiM nu := by
  subst hn
  exact okR_up ok 0 19 v hv.1 hv.2
theorem hM_0_20 (cs : Nat → ClassId) (ad : Nat → Nat) (g : Nat → Int32) (v : Int32) : EM cs ad 0 (upd g 20 v) = .inr (12, [.int (g 0), .ref (ad 1), .int (g 2), .ref (ad 2), .ref (ad 3), .ref (ad 4), .ref (ad 5), .ref (ad 6), .int (g 8), .ref (ad 7), .ref (ad 8), .int (g 11), .ref (ad 9), .int (g 13), .int (g 14), .int (g 15), .ref (ad 10), .int (g 17), .int (g 18), .int (g 19), .int v, .ref (ad 11), .ref (ad 12), .ref (ad 13), .ref (ad 14), .ref (ad 15), .ref (ad 16), .ref (ad 17), .ref (ad 18), .int (g 29), .int (g 30), .int (g 31), .int (g 32), .int (g 33), .int (g 34), .int (g 35), .int (g 36), .int (g 37), .int (g 38), .int (g 39), .ref (ad 19), .ref (ad 20), .int (g 42), .int (g 43), .int (g 44), .long (jn (g 45) (g 46))]) := by
  rfl
theorem tM_0_20 {mu : Nat → Nat → Int32} (ok : okR loM hiM mu) {nu : Nat → Nat → Int32} {v : Int32} (hn : va_up mu 0 (upd (mu 0) 20 v) = nu) (hv : 0 ≤ v.toInt ∧ v.toInt ≤ 12) : okR loM hiM nu := by
  subst hn
  exact okR_up ok 0 20 v hv.1 hv.2
theorem tM_13_s {mu : Nat → Nat → Int32} (ok : okR loM hiM mu) {nu : Nat → Nat → Int32} {v : Int32} (f : Nat) (hn : va_up mu 13 (upd (mu 13) f v) = nu) : okR loM hiM nu := by
  subst hn
  exact okR_up ok 13 f v (tI_lo v) (tI_hi v)
theorem hM_0_8 (cs : Nat → ClassId) (ad : Nat → Nat) (g : Nat → Int32) (v : Int32) : EM cs ad 0 (upd g 8 v) = .inr (12, [.int (g 0), .ref (ad 1), .int (g 2), .ref (ad 2), .ref (ad 3), .ref (ad 4), .ref (ad 5), .ref (ad 6), .int v, .ref (ad 7), .ref (ad 8), .int (g 11), .ref (ad 9), .int (g 13), .int (g 14), .int (g 15), .ref (ad 10), .int (g 17), .int (g 18), .int (g 19), .int (g 20), .ref (ad 11), .ref (ad 12), .ref (ad 13), .ref (ad 14), .ref (ad 15), .ref (ad 16), .ref (ad 17), .ref (ad 18), .int (g 29), .int (g 30), .int (g 31), .int (g 32), .int (g 33), .int (g 34), .int (g 35), .int (g 36), .int (g 37), .int (g 38), .int (g 39), .ref (ad 19), .ref (ad 20), .int (g 42), .int (g 43), .int (g 44), .long (jn (g 45) (g 46))]) := by
  rfl
theorem tM_0_8 {mu : Nat → Nat → Int32} (ok : okR loM hiM mu) {nu : Nat → Nat → Int32} {v : Int32} (hn : va_up mu 0 (upd (mu 0) 8 v) = nu) (hv : 0 ≤ v.toInt ∧ v.toInt ≤ 7) : okR loM hiM nu := by
  subst hn
  exact okR_up ok 0 8 v hv.1 hv.2
theorem hM_0_11 (cs : Nat → ClassId) (ad : Nat → Nat) (g : Nat → Int32) (v : Int32) : EM cs ad 0 (upd g 11 v) = .inr (12, [.int (g 0), .ref (ad 1), .int (g 2), .ref (ad 2), .ref (ad 3), .ref (ad 4), .ref (ad 5), .ref (ad 6), .int (g 8), .ref (ad 7), .ref (ad 8), .int v, .ref (ad 9), .int (g 13), .int (g 14), .int (g 15), .ref (ad 10), .int (g 17), .int (g 18), .int (g 19), .int (g 20), .ref (ad 11), .ref (ad 12), .ref (ad 13), .ref (ad 14), .ref (ad 15), .ref (ad 16), .ref (ad 17), .ref (ad 18), .int (g 29), .int (g 30), .int (g 31), .int (g 32), .int (g 33), .int (g 34), .int (g 35), .int (g 36), .int (g 37), .int (g 38), .int (g 39), .ref (ad 19), .ref (ad 20), .int (g 42), .int (g 43), .int (g 44), .long (jn (g 45) (g 46))]) := by
  rfl
theorem tM_0_11 {mu : Nat → Nat → Int32} (ok : okR loM hiM mu) {nu : Nat → Nat → Int32} {v : Int32} (hn : va_up mu 0 (upd (mu 0) 11 v) = nu) (hv : 0 ≤ v.toInt ∧ v.toInt ≤ 12) : okR loM hiM nu := by
  subst hn
  exact okR_up ok 0 11 v hv.1 hv.2
theorem hM_0_13 (cs : Nat → ClassId) (ad : Nat → Nat) (g : Nat → Int32) (v : Int32) : EM cs ad 0 (upd g 13 v) = .inr (12, [.int (g 0), .ref (ad 1), .int (g 2), .ref (ad 2), .ref (ad 3), .ref (ad 4), .ref (ad 5), .ref (ad 6), .int (g 8), .ref (ad 7), .ref (ad 8), .int (g 11), .ref (ad 9), .int v, .int (g 14), .int (g 15), .ref (ad 10), .int (g 17), .int (g 18), .int (g 19), .int (g 20), .ref (ad 11), .ref (ad 12), .ref (ad 13), .ref (ad 14), .ref (ad 15), .ref (ad 16), .ref (ad 17), .ref (ad 18), .int (g 29), .int (g 30), .int (g 31), .int (g 32), .int (g 33), .int (g 34), .int (g 35), .int (g 36), .int (g 37), .int (g 38), .int (g 39), .ref (ad 19), .ref (ad 20), .int (g 42), .int (g 43), .int (g 44), .long (jn (g 45) (g 46))]) := by
  rfl
theorem tM_0_13 {mu : Nat → Nat → Int32} (ok : okR loM hiM mu) {nu : Nat → Nat → Int32} {v : Int32} (hn : va_up mu 0 (upd (mu 0) 13 v) = nu) : okR loM hiM nu := by
  subst hn
  exact okR_up ok 0 13 v (tI_lo v) (tI_hi v)
theorem hM_0_14 (cs : Nat → ClassId) (ad : Nat → Nat) (g : Nat → Int32) (v : Int32) : EM cs ad 0 (upd g 14 v) = .inr (12, [.int (g 0), .ref (ad 1), .int (g 2), .ref (ad 2), .ref (ad 3), .ref (ad 4), .ref (ad 5), .ref (ad 6), .int (g 8), .ref (ad 7), .ref (ad 8), .int (g 11), .ref (ad 9), .int (g 13), .int v, .int (g 15), .ref (ad 10), .int (g 17), .int (g 18), .int (g 19), .int (g 20), .ref (ad 11), .ref (ad 12), .ref (ad 13), .ref (ad 14), .ref (ad 15), .ref (ad 16), .ref (ad 17), .ref (ad 18), .int (g 29), .int (g 30), .int (g 31), .int (g 32), .int (g 33), .int (g 34), .int (g 35), .int (g 36), .int (g 37), .int (g 38), .int (g 39), .ref (ad 19), .ref (ad 20), .int (g 42), .int (g 43), .int (g 44), .long (jn (g 45) (g 46))]) := by
  rfl
theorem tM_0_14 {mu : Nat → Nat → Int32} (ok : okR loM hiM mu) {nu : Nat → Nat → Int32} {v : Int32} (hn : va_up mu 0 (upd (mu 0) 14 v) = nu) : okR loM hiM nu := by
  subst hn
  exact okR_up ok 0 14 v (tI_lo v) (tI_hi v)
theorem hM_0_15 (cs : Nat → ClassId) (ad : Nat → Nat) (g : Nat → Int32) (v : Int32) : EM cs ad 0 (upd g 15 v) = .inr (12, [.int (g 0), .ref (ad 1), .int (g 2), .ref (ad 2), .ref (ad 3), .ref (ad 4), .ref (ad 5), .ref (ad 6), .int (g 8), .ref (ad 7), .ref (ad 8), .int (g 11), .ref (ad 9), .int (g 13), .int (g 14), .int v, .ref (ad 10), .int (g 17), .int (g 18), .int (g 19), .int (g 20), .ref (ad 11), .ref (ad 12), .ref (ad 13), .ref (ad 14), .ref (ad 15), .ref (ad 16), .ref (ad 17), .ref (ad 18), .int (g 29), .int (g 30), .int (g 31), .int (g 32), .int (g 33), .int (g 34), .int (g 35), .int (g 36), .int (g 37), .int (g 38), .int (g 39), .ref (ad 19), .ref (ad 20), .int (g 42), .int (g 43), .int (g 44), .long (jn (g 45) (g 46))]) := by
  rfl
theorem tM_0_15 {mu : Nat → Nat → Int32} (ok : okR loM hiM mu) {nu : Nat → Nat → Int32} {v : Int32} (hn : va_up mu 0 (upd (mu 0) 15 v) = nu) (hv : 0 ≤ v.toInt ∧ v.toInt ≤ 4) : okR loM hiM nu := by
  subst hn
  exact okR_up ok 0 15 v hv.1 hv.2
theorem hM_0_17 (cs : Nat → ClassId) (ad : Nat → Nat) (g : Nat → Int32) (v : Int32) : EM cs ad 0 (upd g 17 v) = .inr (12, [.int (g 0), .ref (ad 1), .int (g 2), .ref (ad 2), .ref (ad 3), .ref (ad 4), .ref (ad 5), .ref (ad 6), .int (g 8), .ref (ad 7), .ref (ad 8), .int (g 11), .ref (ad 9), .int (g 13), .int (g 14), .int (g 15), .ref (ad 10), .int v, .int (g 18), .int (g 19), .int (g 20), .ref (ad 11), .ref (ad 12), .ref (ad 13), .ref (ad 14), .ref (ad 15), .ref (ad 16), .ref (ad 17), .ref (ad 18), .int (g 29), .int (g 30), .int (g 31), .int (g 32), .int (g 33), .int (g 34), .int (g 35), .int (g 36), .int (g 37), .int (g 38), .int (g 39), .ref (ad 19), .ref (ad 20), .int (g 42), .int (g 43), .int (g 44), .long (jn (g 45) (g 46))]) := by
  rfl
theorem tM_0_17 {mu : Nat → Nat → Int32} (ok : okR loM hiM mu) {nu : Nat → Nat → Int32} {v : Int32} (hn : va_up mu 0 (upd (mu 0) 17 v) = nu) (hv : 0 ≤ v.toInt ∧ v.toInt ≤ 40) : okR loM hiM nu := by
  subst hn
  exact okR_up ok 0 17 v hv.1 hv.2
theorem rM_0_8 {mu : Nat → Nat → Int32} (ok : okR loM hiM mu) : 0 ≤ (mu 0 8).toInt ∧ (mu 0 8).toInt ≤ 7 := ok 0 8
theorem tM_15_s {mu : Nat → Nat → Int32} (ok : okR loM hiM mu) {nu : Nat → Nat → Int32} {v : Int32} (f : Nat) (hn : va_up mu 15 (upd (mu 15) f v) = nu) (hv : (f % 64 = 2 → 0 ≤ v.toInt ∧ v.toInt ≤ 4) ∧ (f % 64 = 15 → 0 ≤ v.toInt ∧ v.toInt ≤ 6) ∧ (f % 64 = 25 → 0 ≤ v.toInt ∧ v.toInt ≤ 6) ∧ (f % 64 = 35 → 0 ≤ v.toInt ∧ v.toInt ≤ 6) ∧ (f % 64 = 45 → 0 ≤ v.toInt ∧ v.toInt ≤ 6)) : okR loM hiM nu := by
  subst hn
  exact okR_up ok 15 f v (by
    show (if f % 64 = 2 then 0 else if f % 64 = 15 then 0 else if f % 64 = 25 then 0 else if f % 64 = 35 then 0 else if f % 64 = 45 then 0 else -2147483648) ≤ v.toInt
    have h8 := tI_lo v
    (repeat' split) <;> omega) (by
    show v.toInt ≤ (if f % 64 = 2 then 4 else if f % 64 = 15 then 6 else if f % 64 = 25 then 6 else if f % 64 = 35 then 6 else if f % 64 = 45 then 6 else 2147483647)
    have h8 := tI_hi v
    (repeat' split) <;> omega)
theorem tM_9_s {mu : Nat → Nat → Int32} (ok : okR loM hiM mu) {nu : Nat → Nat → Int32} {v : Int32} (f : Nat) (hn : va_up mu 9 (upd (mu 9) f v) = nu) : okR loM hiM nu := by
  subst hn
  exact okR_up ok 9 f v (tI_lo v) (tI_hi v)
theorem tM_7_s {mu : Nat → Nat → Int32} (ok : okR loM hiM mu) {nu : Nat → Nat → Int32} {v : Int32} (f : Nat) (hn : va_up mu 7 (upd (mu 7) f v) = nu) : okR loM hiM nu := by
  subst hn
  exact okR_up ok 7 f v (tI_lo v) (tI_hi v)
theorem tM_8_s {mu : Nat → Nat → Int32} (ok : okR loM hiM mu) {nu : Nat → Nat → Int32} {v : Int32} (f : Nat) (hn : va_up mu 8 (upd (mu 8) f v) = nu) : okR loM hiM nu := by
  subst hn
  exact okR_up ok 8 f v (tI_lo v) (tI_hi v)
