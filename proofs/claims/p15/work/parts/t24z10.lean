set_option maxHeartbeats 4000000 in
set_option maxRecDepth 100000 in
/-- sm_mix -/
theorem sm_mix (l : Launch) (dC : Nat → ClassId) (dI : Nat → Nat → Nat) (cs : Nat → ClassId) (ad : Nat → Nat) (mu : Nat → Nat → Int32) (ok : okR loM hiM mu) (H : Heap) (hP : va_P (dC, dI) vwCl (wR 21 ad (EM cs ad) mu) H) (hD0 : va_D (fun _ => True) (wR 21 ad (EM cs ad) mu)) (vv : Int32) : Met l yX12_mix (wU yX12_mix cX12_mix 2 none) ({ frames := 0, cells := 0, slots := 0, locals := 0 }) (va_Pc [.ref (ad 0), .int vv] (sz_P (dC, dI) vwCl (tyM cs) H)) (va_Qv (fun (xi : Nat → Nat → Int32) => okR loM hiM xi ∧ (True) ∧ (∀ k f : Nat, Nat.testBit 510 (gpM k f) = true → xi k f = mu k f)) (fun xi t => va_P (dC, dI) vwCl (wR 21 ad (EM cs ad) xi) t.heap) (va_A (wR 21 ad (EM cs ad) mu) H.size)) 0 0 (va_A (wR 21 ad (EM cs ad) mu) H.size) := by
  refine Met.ofW (cc := cX12_mix) (maxL := 2) (ret := none) (by decide) rfl ?_
  intro p e s m args below meth c s₁ B hml hv
  obtain ⟨rfl, hh, hK, hz⟩ := hv
  have hx := B.exec
  have hb := B.bytes
  have hr := B.returns
  have hts := atoms_spec (ws := (wU yX12_mix cX12_mix 2 none)) B.pre
  have hown : s.vm.findClass RX12 = some m.cls := findClass_of_methodNamed B.named
  have hlocks := B.notSynchronized
  subst hh
  have hD := hD0.self (sz := s.heap.size)
  have hA : ∀ q : Nat, s.heap.size ≤ q → (va_A (wR 21 ad (EM cs ad) mu) s.heap.size) q := fun q h => Or.inr h
  have hS : va_S (va_A (wR 21 ad (EM cs ad) mu) s.heap.size) s.heap s.heap [] := va_S.rf
  have hl := lv_entry ([.ref (ad 0), .int vv]) (n := 2) (Nat.le_of_ble_eq_true rfl)
  rw [lg_entry_eq]
  generalize (lg_sl ([.ref (ad 0), .int vv]) ++ List.replicate (2 - (lg_sl ([.ref (ad 0), .int vv])).length) Slot.unset).toArray = ls at hl ⊢
  have hl : lv_has ls 2 [(0, .ref (ad 0)), (1, .int vv)] := hl
  refine lv_aload_n hx hb dX12_mix_0 rfl (lv_at hl 0 rfl) ?_
  refine lv_ldc2 (v := 31) hx hb hown (hts _ (List.mem_cons_of_mem _ mw_7_88)) dX12_mix_1 ?_
  refine lv_aload_n hx hb dX12_mix_4 rfl (lv_at hl 0 rfl) ?_
  refine va_get (D := (dC, dI)) (ci := 12) (v := .long (jn (mu 0 45) (mu 0 46))) (C := RX12) (T := TX12) (N := 46) hx hb hts inG12 hown hK hP 0 (gM_0 cs ad mu) rfl 45 (by decide) (hts _ (List.mem_cons_of_mem _ mw_5_86)) (fun _ h9 => h9) rfl dX12_mix_5 ?_
  refine lv_topl (fun l1 el1 => ?_)
  refine lv_lmul hx hb dX12_mix_8 ?_
  refine lv_topl (fun l2 el2 => ?_)
  refine lv_iload_n hx hb dX12_mix_9 rfl (lv_at hl 1 rfl) ?_
  refine lv_i2l hx hb dX12_mix_10 rfl ?_
  refine lv_topl (fun l3 el3 => ?_)
  refine lv_ladd hx hb dX12_mix_11 ?_
  refine lv_topl (fun l4 el4 => ?_)
  refine va_put (D := (dC, dI)) (ci := 12) (v := .long l4) (ty := .long) (C := RX12) (T := TX12) (N := 46) hx hb hts inG12 tyX12 tyX12_ok nmX12 hown hK hP (wR_D mu hD) hS 0 (gM_0 cs ad mu) rfl 45 (by decide) (hts _ (List.mem_cons_of_mem _ mw_5_86)) (fun _ h9 => h9) rfl (by decide +kernel) rfl rfl (Nat.le_of_ble_eq_true rfl) dX12_mix_12 (fun H locs hP _ hS => ?_)
  simp only [List.set_cons_succ, List.set_cons_zero] at hP
  obtain ⟨ja5, jb5, hj5⟩ := jn_of (l4)
  rw [← hj5] at hP
  refine wr_gen (upd (upd (mu 0) 45 ja5) 46 jb5) hP rfl (fun nu6 hn6 hP => ?_)
  have ok := okR_2 (k := 0) (f := 45) (g := 46) (a := ja5) (b := jb5) ok (tI_lo _) (tI_hi _) (tI_lo _) (tI_hi _) hn6
  have kp7 : (∀ k f : Nat, Nat.testBit 510 (gpM k f) = true → nu6 k f = mu k f) := kp_2 hn6 (by decide) (by decide) (fun _ _ _ => rfl)
  exact W.vret hx hb hr (fun t ht hW => ⟨⟨nu6, rfl, ⟨ok, trivial, kp7⟩, by first | (subst ht; exact hP) | (rw [ht]; exact hP) | (show va_P (dC, dI) vwCl (wR 21 ad (EM cs ad) nu6) t.heap; rw [ht]; exact hP)⟩, hS.F ht⟩) hS.2.2 dX12_mix_15
