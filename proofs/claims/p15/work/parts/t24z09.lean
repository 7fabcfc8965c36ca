set_option maxHeartbeats 4000000 in
set_option maxRecDepth 100000 in
/-- qm_findings -/
theorem qm_findings (l : Launch) (dC : Nat → ClassId) (dI : Nat → Nat → Nat) (cs : Nat → ClassId) (ad : Nat → Nat) (mu : Nat → Nat → Int32) (ok : okR loM hiM mu) (H : Heap) (hP : va_P (dC, dI) vwCl (wR 21 ad (EM cs ad) mu) H) (hD0 : va_D (fun _ => True) (wR 21 ad (EM cs ad) mu)) (vf : Int32) : Met l yX12_findings (wU yX12_findings cX12_findings 2 (some .int)) ({ frames := 1, cells := 0, slots := 0, locals := 22 }) (va_Pc [.ref (ad 0), .int vf] (sz_P (dC, dI) vwCl (tyM cs) H)) (va_Qi (fun (z : Int32) (xi : Nat → Nat → Int32) => okR loM hiM xi ∧ (True) ∧ (∀ k f : Nat, Nat.testBit 510 (gpM k f) = true → xi k f = mu k f)) (fun xi t => va_P (dC, dI) vwCl (wR 21 ad (EM cs ad) xi) t.heap) (va_A (wR 21 ad (EM cs ad) mu) H.size)) 0 0 (va_A (wR 21 ad (EM cs ad) mu) H.size) := by
  refine Met.ofW (cc := cX12_findings) (maxL := 2) (ret := (some .int)) (by decide) rfl ?_
  intro p e s m args below meth c s₁ B hml hv
  obtain ⟨rfl, hh, hK, hz⟩ := hv
  have hx := B.exec
  have hb := B.bytes
  have hr := B.returns
  have hts := atoms_spec (ws := (wU yX12_findings cX12_findings 2 (some .int))) B.pre
  have hown : s.vm.findClass RX12 = some m.cls := findClass_of_methodNamed B.named
  have hlocks := B.notSynchronized
  subst hh
  have hD := hD0.self (sz := s.heap.size)
  have hA : ∀ q : Nat, s.heap.size ≤ q → (va_A (wR 21 ad (EM cs ad) mu) s.heap.size) q := fun q h => Or.inr h
  have hS : va_S (va_A (wR 21 ad (EM cs ad) mu) s.heap.size) s.heap s.heap [] := va_S.rf
  have hl := lv_entry ([.ref (ad 0), .int vf]) (n := 2) (Nat.le_of_ble_eq_true rfl)
  rw [lg_entry_eq]
  generalize (lg_sl ([.ref (ad 0), .int vf]) ++ List.replicate (2 - (lg_sl ([.ref (ad 0), .int vf])).length) Slot.unset).toArray = ls at hl ⊢
  have hl : lv_has ls 2 [(0, .ref (ad 0)), (1, .int vf)] := hl
  refine lv_iload_n hx hb dX12_findings_0 rfl (lv_at hl 1 rfl) ?_
  refine lv_iconst (v := 1) hx hb dX12_findings_1 (by decide) ?_
  refine lv_iconst (v := 5) hx hb dX12_findings_2 (by decide) ?_
  refine cr_i (va_runS (As := [.int vf, .int 1, .int 5]) (rest := []) ⟨hx, hb, hml, hown, hts⟩ (sm_in l dC dI (tyM cs) s.heap vf 1 5) (va_cwS 3 hts (wU_S mw_5_189 mw_5_187 mw_5_188 mw_1_13) rfl rfl rfl (by decide +kernel) ⟨Nat.le_of_ble_eq_true rfl, Nat.le_of_ble_eq_true rfl⟩) ⟨sz_c, sz_m hK hz⟩ rfl rfl hl.1 rfl (lv_room (Nat.le_of_ble_eq_true rfl)) dX12_findings_3 ⟨Nat.zero_le _, Nat.zero_le _⟩) hS (fun r1 hw1 locs hS => ?_)
  obtain ⟨hfe1, hw1⟩ := hw1
  rcases hw1 with ⟨rfl, f1⟩ | ⟨rfl, f1⟩
  · have f1 : (1 : Int) ≤ vf.toInt ∧ vf.toInt ≤ (5 : Int) := f1
    refine lv_if_eq (tgt := 18) hx hb dX12_findings_6 (by decide) (fun c => absurd c (by decide)) (fun _ => ?_)
    refine lv_aload_n hx hb dX12_findings_9 rfl (lv_at hl 0 rfl) ?_
    refine va_get (D := (dC, dI)) (ci := 12) (v := .ref (ad 1)) (C := RX12) (T := TX12) (N := 46) hx hb hts inG12 hown hK hP 0 (gM_0 cs ad mu) rfl 1 (by decide) (hts _ (List.mem_cons_of_mem _ mw_5_42)) (fun _ h9 => h9) rfl dX12_findings_10 ?_
    refine lv_iload_n hx hb dX12_findings_13 rfl (lv_at hl 1 rfl) ?_
    refine va_iald hx hb hK hP 1 0 (gM_1 cs ad mu) rfl (show vp_in vf 6 from vi_of (by omega) (by omega)) dX12_findings_14 ?_
    refine lv_topi (fun y2 ey2 => ?_)
    have by2 : y2.toInt = (mu 1 vf.toNatClampNeg).toInt := congrArg Int32.toInt ey2
    refine lv_goto (tgt := 19) hx hb dX12_findings_15 (by decide) ?_
    exact W.iret (v := y2) hx hb hr (fun t ht hW => ⟨⟨y2, mu, rfl, ⟨ok, trivial, (fun _ _ _ => rfl)⟩, by first | (subst ht; exact hP) | (rw [ht]; exact hP) | (show va_P (dC, dI) vwCl (wR 21 ad (EM cs ad) mu) t.heap; rw [ht]; exact hP)⟩, hS.F ht⟩) hS.2.2 dX12_findings_19
  · have f1 : vf.toInt < (1 : Int) ∨ (5 : Int) < vf.toInt := f1
    refine lv_if_eq (tgt := 18) hx hb dX12_findings_6 (by decide) (fun _ => ?_) (fun c => absurd (by decide) c)
    refine lv_iconst (v := (-1)) hx hb dX12_findings_18 (by decide) ?_
    exact W.iret (v := (-1)) hx hb hr (fun t ht hW => ⟨⟨(-1), mu, rfl, ⟨ok, trivial, (fun _ _ _ => rfl)⟩, by first | (subst ht; exact hP) | (rw [ht]; exact hP) | (show va_P (dC, dI) vwCl (wR 21 ad (EM cs ad) mu) t.heap; rw [ht]; exact hP)⟩, hS.F ht⟩) hS.2.2 dX12_findings_19
