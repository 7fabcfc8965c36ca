set_option maxHeartbeats 4000000 in
set_option maxRecDepth 100000 in
/-- qm_fake -/
theorem qm_fake (l : Launch) (dC : Nat → ClassId) (dI : Nat → Nat → Nat) (cs : Nat → ClassId) (ad : Nat → Nat) (mu : Nat → Nat → Int32) (ok : okR loM hiM mu) (H : Heap) (hP : va_P (dC, dI) vwCl (wR 21 ad (EM cs ad) mu) H) (hD0 : va_D (fun _ => True) (wR 21 ad (EM cs ad) mu)) (vx : Int32) (vy : Int32) (vw : Int32) : Met l yX12_fake (wU yX12_fake cX12_fake 4 (some .int)) ({ frames := 10, cells := 0, slots := 0, locals := 259 }) (va_Pc [.ref (ad 0), .int vx, .int vy, .int vw] (sz_P (dC, dI) vwCl (tyM cs) H)) (va_Qi (fun (z : Int32) (xi : Nat → Nat → Int32) => okR loM hiM xi ∧ (True) ∧ (∀ k f : Nat, Nat.testBit 510 (gpM k f) = true → xi k f = mu k f)) (fun xi t => va_P (dC, dI) vwCl (wR 21 ad (EM cs ad) xi) t.heap) (va_A (wR 21 ad (EM cs ad) mu) H.size)) 0 0 (va_A (wR 21 ad (EM cs ad) mu) H.size) := by
  refine Met.ofW (cc := cX12_fake) (maxL := 4) (ret := (some .int)) (by decide) rfl ?_
  intro p e s m args below meth c s₁ B hml hv
  obtain ⟨rfl, hh, hK, hz⟩ := hv
  have hx := B.exec
  have hb := B.bytes
  have hr := B.returns
  have hts := atoms_spec (ws := (wU yX12_fake cX12_fake 4 (some .int))) B.pre
  have hown : s.vm.findClass RX12 = some m.cls := findClass_of_methodNamed B.named
  have hlocks := B.notSynchronized
  subst hh
  have hD := hD0.self (sz := s.heap.size)
  have hA : ∀ q : Nat, s.heap.size ≤ q → (va_A (wR 21 ad (EM cs ad) mu) s.heap.size) q := fun q h => Or.inr h
  have hS : va_S (va_A (wR 21 ad (EM cs ad) mu) s.heap.size) s.heap s.heap [] := va_S.rf
  have hl := lv_entry ([.ref (ad 0), .int vx, .int vy, .int vw]) (n := 4) (Nat.le_of_ble_eq_true rfl)
  rw [lg_entry_eq]
  generalize (lg_sl ([.ref (ad 0), .int vx, .int vy, .int vw]) ++ List.replicate (4 - (lg_sl ([.ref (ad 0), .int vx, .int vy, .int vw])).length) Slot.unset).toArray = ls at hl ⊢
  have hl : lv_has ls 4 [(0, .ref (ad 0)), (1, .int vx), (2, .int vy), (3, .int vw)] := hl
  refine lv_aload_n hx hb dX12_fake_0 rfl (lv_at hl 0 rfl) ?_
  refine lv_iload_n hx hb dX12_fake_1 rfl (lv_at hl 1 rfl) ?_
  refine lv_iload_n hx hb dX12_fake_2 rfl (lv_at hl 2 rfl) ?_
  refine cr_i (va_runV (As := [.int vx, .int vy]) (rest := []) ⟨hx, hb, hml, hown, hts⟩ (sm_areTwo l dC dI cs ad mu ok s.heap hP vx vy) (cwV 2 hts (wU_V mw_6_102 mw_6_99 mw_6_101 mw_0_44 mw_1_13) rfl rfl rfl (by decide +kernel) ⟨Nat.le_of_ble_eq_true rfl, Nat.le_of_ble_eq_true rfl⟩) ⟨sz_c, va_recv hK hP (ci := 12) (q0 := 0) rfl (gM_0 cs ad mu), sz_m hK hz⟩ rfl rfl hl.1 rfl (lv_room (Nat.le_of_ble_eq_true rfl)) dX12_fake_3 ⟨Nat.zero_le _, Nat.zero_le _⟩) hS (fun r1 hw1 locs hS => ?_)
  obtain ⟨hfe1, hw1⟩ := hw1
  rcases hw1 with ⟨rfl, f1⟩ | ⟨rfl, f1⟩
  · have f1 : 0 ≤ vx.toInt ∧ vx.toInt < (mu 0 8).toInt ∧ 0 ≤ vy.toInt ∧ vy.toInt < (mu 0 8).toInt ∧ (mu 0 8).toInt ≤ 7 := f1
    refine lv_if_eq (tgt := 19) hx hb dX12_fake_6 (by decide) (fun c => absurd c (by decide)) (fun _ => ?_)
    refine lv_iload_n hx hb dX12_fake_9 rfl (lv_at hl 3 rfl) ?_
    refine lv_iconst (v := 0) hx hb dX12_fake_10 (by decide) ?_
    refine lv_bipush (v := 99) hx hb dX12_fake_11 (by decide) ?_
    refine cr_i (va_runS (As := [.int vw, .int 0, .int 99]) (rest := []) ⟨hx, hb, hml, hown, hts⟩ (sm_in l dC dI (tyM cs) s.heap vw 0 99) (va_cwS 3 hts (wU_S mw_5_189 mw_5_187 mw_5_188 mw_1_13) rfl rfl rfl (by decide +kernel) ⟨Nat.le_of_ble_eq_true rfl, Nat.le_of_ble_eq_true rfl⟩) ⟨sz_c, sz_m hK hz⟩ rfl rfl hl.1 rfl (lv_room (Nat.le_of_ble_eq_true rfl)) dX12_fake_13 ⟨Nat.zero_le _, Nat.zero_le _⟩) hS (fun r2 hw2 locs hS => ?_)
    obtain ⟨hfe2, hw2⟩ := hw2
    rcases hw2 with ⟨rfl, f2⟩ | ⟨rfl, f2⟩
    · have f2 : (0 : Int) ≤ vw.toInt ∧ vw.toInt ≤ (99 : Int) := f2
      refine lv_if_ne (tgt := 21) hx hb dX12_fake_16 (by decide) (fun _ => ?_) (fun c => absurd c (by decide))
      refine lv_aload_n hx hb dX12_fake_21 rfl (lv_at hl 0 rfl) ?_
      refine lv_iconst (v := 1) hx hb dX12_fake_22 (by decide) ?_
      refine va_put (D := (dC, dI)) (ci := 12) (v := .int 1) (ty := .boolean) (C := RX12) (T := TX12) (N := 46) hx hb hts inG12 tyX12 tyX12_ok nmX12 hown hK hP (wR_D mu hD) hS 0 (gM_0 cs ad mu) rfl 38 (by decide) (hts _ (List.mem_cons_of_mem _ mw_5_79)) (fun _ h9 => h9) rfl (by decide +kernel) (by first | rfl | decide) (by first | rfl | decide) (Nat.le_of_ble_eq_true rfl) dX12_fake_23 (fun H locs hP _ hS => ?_)
      simp only [List.set_cons_succ, List.set_cons_zero] at hP
      refine wr_gen (upd (mu 0) 38 1) hP ((hM_0_38 cs ad _ _)) (fun nu3 hn3 hP => ?_)
      have ok := tM_0_38 ok hn3 (by have h9 : (1 : Int32).toInt = 1 := rfl; exact ⟨by omega, by omega⟩)
      have kp4 : (∀ k f : Nat, Nat.testBit 510 (gpM k f) = true → nu3 k f = mu k f) := kp_f hn3 (by decide) (fun _ _ _ => rfl)
      have ez5 : 1 = nu3 0 38 := up_v hn3
      refine lv_aload_n hx hb dX12_fake_26 rfl (lv_at hl 0 rfl) ?_
      refine lv_bipush (v := (-9)) hx hb dX12_fake_27 (by decide) ?_
      refine lv_iload_n hx hb dX12_fake_29 rfl (lv_at hl 1 rfl) ?_
      refine lv_iload_n hx hb dX12_fake_30 rfl (lv_at hl 2 rfl) ?_
      refine lv_iconst (v := 0) hx hb dX12_fake_31 (by decide) ?_
      have hFc := fr_all (wR_D nu3 hD) hS hA
      refine va_callv (va_runV (As := [.int (-9), .int vx, .int vy, .int 0]) (rest := []) ⟨hx, hb, hml, hown, hts⟩ (sm_setRoutes l dC dI cs ad nu3 ok H hP ((wR_D nu3 hD).weaken (fun _ _ _ _ => trivial)) (-9) vx vy 0 (by have h50 : ((-9) : Int32).toInt = -9 := rfl; have h53 : (0 : Int32).toInt = 0 := rfl; omega)) (cwV 4 hts (wU_V mw_6_178 mw_6_175 mw_6_177 mw_0_54 mw_1_13) rfl rfl rfl (by decide +kernel) ⟨Nat.le_of_ble_eq_true rfl, Nat.le_of_ble_eq_true rfl⟩) ⟨sz_c, va_recv hK hP (ci := 12) (q0 := 0) rfl (gM_0 cs ad nu3), sz_m hK hz⟩ rfl rfl hl.1 rfl (lv_room (Nat.le_of_ble_eq_true rfl)) dX12_fake_32 ⟨Nat.zero_le _, Nat.zero_le _⟩) hS (fun q _ h => hFc q h) hFc (fun xi6 t H6 locs ht hvm hw6 hB hz1 hk1 hS => ?_)
      have hP : va_P (dC, dI) vwCl (wR 21 ad (EM cs ad) xi6) H6 := by rw [← ht]; exact hB
      obtain ⟨ok, hw6, hkp6_0⟩ := hw6
      have kp7 : (∀ k f : Nat, Nat.testBit 510 (gpM k f) = true → xi6 k f = mu k f) := kp_t hkp6_0 (by decide) kp4
      have gr6 : ((xi6 0 39).toInt = -9 ∨ (0 ≤ (xi6 0 39).toInt ∧ (xi6 0 39).toInt ≤ 3)) ∧ ((xi6 0 33).toInt = 0 ∨ (xi6 0 35).toInt ≤ 7) := hw6
      refine lv_aload_n hx hb dX12_fake_35 rfl (lv_at hl 0 rfl) ?_
      refine va_get (D := (dC, dI)) (ci := 12) (v := .int (xi6 0 31)) (C := RX12) (T := TX12) (N := 46) hx hb hts inG12 hown hK hP 0 (gM_0 cs ad xi6) rfl 31 (by decide) (hts _ (List.mem_cons_of_mem _ mw_5_72)) (fun _ h9 => h9) rfl dX12_fake_36 ?_
      refine lv_topi (fun y8 ey8 => ?_)
      have by8 : y8.toInt = (xi6 0 31).toInt := congrArg Int32.toInt ey8
      refine lv_iload_n hx hb dX12_fake_39 rfl (lv_at hl 3 rfl) ?_
      refine lv_icmp_gt (tgt := 50) hx hb dX12_fake_40 (by decide) (fun c_9 => ?_) (fun c_9 => ?_)
      · have c_9 : vw.toInt < y8.toInt := il_lt c_9
        refine lv_iconst (v := 0) hx hb dX12_fake_50 (by decide) ?_
        exact W.iret (v := 0) hx hb hr (fun t ht hW => ⟨⟨0, xi6, rfl, ⟨ok, trivial, kp7⟩, by first | (subst ht; exact hP) | (rw [ht]; exact hP) | (show va_P (dC, dI) vwCl (wR 21 ad (EM cs ad) xi6) t.heap; rw [ht]; exact hP)⟩, hS.F ht⟩) hS.2.2 dX12_fake_51
      · have c_9 : y8.toInt ≤ vw.toInt := il_nlt c_9
        refine lv_aload_n hx hb dX12_fake_43 rfl (lv_at hl 0 rfl) ?_
        refine va_get (D := (dC, dI)) (ci := 12) (v := .int (xi6 0 31)) (C := RX12) (T := TX12) (N := 46) hx hb hts inG12 hown hK hP 0 (gM_0 cs ad xi6) rfl 31 (by decide) (hts _ (List.mem_cons_of_mem _ mw_5_72)) (fun _ h9 => h9) rfl dX12_fake_44 ?_
        refine lq_i y8 ey8.symm ?_
        refine lv_goto (tgt := 51) hx hb dX12_fake_47 (by decide) ?_
        exact W.iret (v := y8) hx hb hr (fun t ht hW => ⟨⟨y8, xi6, rfl, ⟨ok, trivial, kp7⟩, by first | (subst ht; exact hP) | (rw [ht]; exact hP) | (show va_P (dC, dI) vwCl (wR 21 ad (EM cs ad) xi6) t.heap; rw [ht]; exact hP)⟩, hS.F ht⟩) hS.2.2 dX12_fake_51
    · have f2 : vw.toInt < (0 : Int) ∨ (99 : Int) < vw.toInt := f2
      refine lv_if_ne (tgt := 21) hx hb dX12_fake_16 (by decide) (fun c => absurd (by decide) c) (fun _ => ?_)
      refine lv_iconst (v := (-1)) hx hb dX12_fake_19 (by decide) ?_
      exact W.iret (v := (-1)) hx hb hr (fun t ht hW => ⟨⟨(-1), mu, rfl, ⟨ok, trivial, (fun _ _ _ => rfl)⟩, by first | (subst ht; exact hP) | (rw [ht]; exact hP) | (show va_P (dC, dI) vwCl (wR 21 ad (EM cs ad) mu) t.heap; rw [ht]; exact hP)⟩, hS.F ht⟩) hS.2.2 dX12_fake_20
  · have f1 : True := f1
    refine lv_if_eq (tgt := 19) hx hb dX12_fake_6 (by decide) (fun _ => ?_) (fun c => absurd (by decide) c)
    refine lv_iconst (v := (-1)) hx hb dX12_fake_19 (by decide) ?_
    exact W.iret (v := (-1)) hx hb hr (fun t ht hW => ⟨⟨(-1), mu, rfl, ⟨ok, trivial, (fun _ _ _ => rfl)⟩, by first | (subst ht; exact hP) | (rw [ht]; exact hP) | (show va_P (dC, dI) vwCl (wR 21 ad (EM cs ad) mu) t.heap; rw [ht]; exact hP)⟩, hS.F ht⟩) hS.2.2 dX12_fake_20
