set_option maxHeartbeats 4000000 in
set_option maxRecDepth 100000 in
/-- qx_bearer -/
theorem qx_bearer (l : Launch) (dC : Nat → ClassId) (dI : Nat → Nat → Nat) (cs : Nat → ClassId) (ad : Nat → Nat) (mu : Nat → Nat → Int32) (ok : okR loX hiX mu) (H : Heap) (hP : va_P (dC, dI) vwCl (wR 157 ad (EX cs ad) mu) H) (hD0 : va_D (fun _ => True) (wR 157 ad (EX cs ad) mu)) (vx : Int32) (vw : Int32) : Met l yX11_bearer (wU yX11_bearer cX11_bearer 3 (some .int)) ({ frames := 3, cells := 0, slots := 0, locals := 67 }) (va_Pc [.ref (ad 0), .int vx, .int vw] (sz_P (dC, dI) vwCl (tyW cs) H)) (va_Qi (fun (z : Int32) (xi : Nat → Nat → Int32) => (z, xi) = F_qx_bearer mu vx vw ∧ okR loX hiX xi ∧ (True) ∧ (∀ k f : Nat, Nat.testBit 510 (gpX k f) = true → xi k f = mu k f)) (fun xi t => va_P (dC, dI) vwCl (wR 157 ad (EX cs ad) xi) t.heap) (va_A (wR 157 ad (EX cs ad) mu) H.size)) 0 0 (va_A (wR 157 ad (EX cs ad) mu) H.size) := by
  refine Met.ofW (cc := cX11_bearer) (maxL := 3) (ret := (some .int)) (by decide) rfl ?_
  intro p e s m args below meth c s₁ B hml hv
  obtain ⟨rfl, hh, hK, hz⟩ := hv
  have hx := B.exec
  have hb := B.bytes
  have hr := B.returns
  have hts := atoms_spec (ws := (wU yX11_bearer cX11_bearer 3 (some .int))) B.pre
  have hown : s.vm.findClass RX11 = some m.cls := findClass_of_methodNamed B.named
  have hlocks := B.notSynchronized
  subst hh
  have hD := hD0.self (sz := s.heap.size)
  have hA : ∀ q : Nat, s.heap.size ≤ q → (va_A (wR 157 ad (EX cs ad) mu) s.heap.size) q := fun q h => Or.inr h
  have hS : va_S (va_A (wR 157 ad (EX cs ad) mu) s.heap.size) s.heap s.heap [] := va_S.rf
  have hl := lv_entry ([.ref (ad 0), .int vx, .int vw]) (n := 3) (Nat.le_of_ble_eq_true rfl)
  rw [lg_entry_eq]
  generalize (lg_sl ([.ref (ad 0), .int vx, .int vw]) ++ List.replicate (3 - (lg_sl ([.ref (ad 0), .int vx, .int vw])).length) Slot.unset).toArray = ls at hl ⊢
  have hl : lv_has ls 3 [(0, .ref (ad 0)), (1, .int vx), (2, .int vw)] := hl
  obtain ⟨fz, hfz⟩ : ∃ z, F_qx_bearer mu vx vw = z := ⟨_, rfl⟩
  have hF := hfz
  unfold F_qx_bearer at hF
  refine lv_aload_n hx hb dX11_bearer_0 rfl (lv_at hl 0 rfl) ?_
  refine va_get (D := (dC, dI)) (ci := 11) (v := .ref (ad 4)) (C := RX11) (T := TX11) (N := 11) hx hb hts inG11 hown hK hP 0 (gX_0 cs ad mu) rfl 3 (by decide) (hts _ (List.mem_cons_of_mem _ mw_2_161)) (fun _ h9 => h9) rfl dX11_bearer_1 ?_
  refine lv_iload_n hx hb dX11_bearer_4 rfl (lv_at hl 1 rfl) ?_
  refine cr_i (va_runV (As := [.int vx]) (rest := []) ⟨hx, hb, hml, hown, hts⟩ (sx_has l dC dI cs ad mu ok s.heap hP vx) (cwV 1 hts (wU_V mw_3_76 mw_3_73 mw_3_74 mw_3_75 mw_1_2) rfl rfl rfl (by decide +kernel) ⟨Nat.le_of_ble_eq_true rfl, Nat.le_of_ble_eq_true rfl⟩) ⟨sz_c, va_recv hK hP (ci := 10) (q0 := 4) rfl (gX_4 cs ad mu), sz_m hK hz⟩ rfl rfl hl.1 rfl (lv_room (Nat.le_of_ble_eq_true rfl)) dX11_bearer_5 ⟨Nat.zero_le _, Nat.zero_le _⟩) hS (fun r1 hw1 locs hS => ?_)
  obtain ⟨hfe1, hw1⟩ := hw1
  rcases hw1 with ⟨rfl, f1⟩ | ⟨rfl, f1⟩
  · have hF := (if_pos hfe1.symm).symm.trans hF
    have f1 : 0 ≤ vx.toInt ∧ vx.toInt < (mu 4 6).toInt ∧ (mu 4 6).toInt ≤ 7 := f1
    refine lv_if_eq (tgt := 20) hx hb dX11_bearer_8 (by decide) (fun c => absurd c (by decide)) (fun _ => ?_)
    refine lv_iload_n hx hb dX11_bearer_11 rfl (lv_at hl 2 rfl) ?_
    refine lv_if_lt (tgt := 20) hx hb dX11_bearer_12 (by decide) (fun c_2 => ?_) (fun c_2 => ?_)
    · have hF := (if_pos c_2).symm.trans hF
      have c_2 : vw.toInt < 0 := il_lt c_2
      refine lv_iconst (v := (-1)) hx hb dX11_bearer_20 (by decide) ?_
      exact W.iret (v := (-1)) hx hb hr (fun t ht hW => ⟨⟨(-1), mu, rfl, ⟨hF.trans hfz.symm, ok, trivial, (fun _ _ _ => rfl)⟩, by first | (subst ht; exact hP) | (rw [ht]; exact hP) | (show va_P (dC, dI) vwCl (wR 157 ad (EX cs ad) mu) t.heap; rw [ht]; exact hP)⟩, hS.F ht⟩) hS.2.2 dX11_bearer_21
    · have hF := (if_neg c_2).symm.trans hF
      have c_2 : 0 ≤ vw.toInt := il_nlt c_2
      refine lv_iload_n hx hb dX11_bearer_15 rfl (lv_at hl 2 rfl) ?_
      refine lv_iconst (v := 4) hx hb dX11_bearer_16 (by decide) ?_
      refine lv_icmp_lt (tgt := 22) hx hb dX11_bearer_17 (by decide) (fun c_3 => ?_) (fun c_3 => ?_)
      · have hF := (if_pos c_3).symm.trans hF
        have c_3 : vw.toInt < 4 := il_lt c_3
        refine lv_aload_n hx hb dX11_bearer_22 rfl (lv_at hl 0 rfl) ?_
        refine lv_aload_n hx hb dX11_bearer_23 rfl (lv_at hl 0 rfl) ?_
        refine va_get (D := (dC, dI)) (ci := 11) (v := .ref (ad 4)) (C := RX11) (T := TX11) (N := 11) hx hb hts inG11 hown hK hP 0 (gX_0 cs ad mu) rfl 3 (by decide) (hts _ (List.mem_cons_of_mem _ mw_2_161)) (fun _ h9 => h9) rfl dX11_bearer_24 ?_
        refine lv_iload_n hx hb dX11_bearer_27 rfl (lv_at hl 1 rfl) ?_
        refine lv_iload_n hx hb dX11_bearer_28 rfl (lv_at hl 2 rfl) ?_
        refine cr_i (va_runV (As := [.int vx, .int vw]) (rest := [.ref (ad 0)]) ⟨hx, hb, hml, hown, hts⟩ (sx_bearerFact l dC dI cs ad mu ok s.heap hP vx vw (by omega)) (cwV 2 hts (wU_V mw_3_80 mw_3_77 mw_3_78 mw_3_79 mw_1_2) rfl rfl rfl (by decide +kernel) ⟨Nat.le_of_ble_eq_true rfl, Nat.le_of_ble_eq_true rfl⟩) ⟨sz_c, va_recv hK hP (ci := 10) (q0 := 4) rfl (gX_4 cs ad mu), sz_m hK hz⟩ rfl rfl hl.1 rfl (lv_room (Nat.le_of_ble_eq_true rfl)) dX11_bearer_29 ⟨Nat.zero_le _, Nat.zero_le _⟩) hS (fun r4 hw4 locs hS => ?_)
        obtain ⟨hfe4, hw4⟩ := hw4
        have hF := mi_let hF hfe4
        refine va_put (D := (dC, dI)) (ci := 11) (v := .int r4) (ty := .int) (C := RX11) (T := TX11) (N := 11) hx hb hts inG11 tyX11 tyX11_ok nmX11 hown hK hP (wR_D mu hD) hS 0 (gX_0 cs ad mu) rfl 10 (by decide) (hts _ (List.mem_cons_of_mem _ mw_2_168)) (fun _ h9 => h9) rfl (by decide +kernel) rfl rfl (Nat.le_of_ble_eq_true rfl) dX11_bearer_32 (fun H locs hP _ hS => ?_)
        simp only [List.set_cons_succ, List.set_cons_zero] at hP
        refine wr_gen (upd (mu 0) 10 r4) hP ((hX_0_10 cs ad _ _)) (fun nu5 hn5 hP => ?_)
        have hF := mi_let hF hn5.symm
        have ok := tX_0_10 ok hn5
        have kp6 : (∀ k f : Nat, Nat.testBit 510 (gpX k f) = true → nu5 k f = mu k f) := kp_c 0 hn5 (fun _ => rfl) (by decide) (fun _ _ _ => rfl)
        have ez7 : r4 = nu5 0 10 := up_v hn5
        refine lv_iconst (v := 1) hx hb dX11_bearer_35 (by decide) ?_
        exact W.iret (v := 1) hx hb hr (fun t ht hW => ⟨⟨1, nu5, rfl, ⟨hF.trans hfz.symm, ok, trivial, kp6⟩, by first | (subst ht; exact hP) | (rw [ht]; exact hP) | (show va_P (dC, dI) vwCl (wR 157 ad (EX cs ad) nu5) t.heap; rw [ht]; exact hP)⟩, hS.F ht⟩) hS.2.2 dX11_bearer_36
      · have hF := (if_neg c_3).symm.trans hF
        have c_3 : 4 ≤ vw.toInt := il_nlt c_3
        refine lv_iconst (v := (-1)) hx hb dX11_bearer_20 (by decide) ?_
        exact W.iret (v := (-1)) hx hb hr (fun t ht hW => ⟨⟨(-1), mu, rfl, ⟨hF.trans hfz.symm, ok, trivial, (fun _ _ _ => rfl)⟩, by first | (subst ht; exact hP) | (rw [ht]; exact hP) | (show va_P (dC, dI) vwCl (wR 157 ad (EX cs ad) mu) t.heap; rw [ht]; exact hP)⟩, hS.F ht⟩) hS.2.2 dX11_bearer_21
  · have hF := (if_neg (fun h => absurd (hfe1.trans h) (by decide))).symm.trans hF
    have f1 : vx.toInt < 0 ∨ (mu 4 6).toInt ≤ vx.toInt := f1
    refine lv_if_eq (tgt := 20) hx hb dX11_bearer_8 (by decide) (fun _ => ?_) (fun c => absurd (by decide) c)
    refine lv_iconst (v := (-1)) hx hb dX11_bearer_20 (by decide) ?_
    exact W.iret (v := (-1)) hx hb hr (fun t ht hW => ⟨⟨(-1), mu, rfl, ⟨hF.trans hfz.symm, ok, trivial, (fun _ _ _ => rfl)⟩, by first | (subst ht; exact hP) | (rw [ht]; exact hP) | (show va_P (dC, dI) vwCl (wR 157 ad (EX cs ad) mu) t.heap; rw [ht]; exact hP)⟩, hS.F ht⟩) hS.2.2 dX11_bearer_21
