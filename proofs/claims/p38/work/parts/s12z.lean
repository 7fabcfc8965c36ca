set_option maxHeartbeats 4000000 in
set_option maxRecDepth 100000 in
/-- qx_lay -/
theorem qx_lay (l : Launch) (dC : Nat → ClassId) (dI : Nat → Nat → Nat) (cs : Nat → ClassId) (ad : Nat → Nat) (mu : Nat → Nat → Int32) (ok : okR loX hiX mu) (H : Heap) (hP : va_P (dC, dI) vwCl (wR 157 ad (EX cs ad) mu) H) (hD0 : va_D (fun _ => True) (wR 157 ad (EX cs ad) mu)) (vr : Int32) (vi : Int32) (vv : Int32) : Met l yX11_lay (wU yX11_lay cX11_lay 5 (some .int)) ({ frames := 3, cells := 0, slots := 0, locals := 65 }) (va_Pc [.ref (ad 0), .int vr, .int vi, .int vv] (sz_P (dC, dI) vwCl (tyW cs) H)) (va_Qi (fun (z : Int32) (xi : Nat → Nat → Int32) => okR loX hiX xi ∧ (True) ∧ (∀ k f : Nat, Nat.testBit 510 (gpX k f) = true → xi k f = mu k f)) (fun xi t => va_P (dC, dI) vwCl (wR 157 ad (EX cs ad) xi) t.heap) (va_A (wR 157 ad (EX cs ad) mu) H.size)) 0 0 (va_A (wR 157 ad (EX cs ad) mu) H.size) := by
  refine Met.ofW (cc := cX11_lay) (maxL := 5) (ret := (some .int)) (by decide) rfl ?_
  intro p e s m args below meth c s₁ B hml hv
  obtain ⟨rfl, hh, hK, hz⟩ := hv
  have hx := B.exec
  have hb := B.bytes
  have hr := B.returns
  have hts := atoms_spec (ws := (wU yX11_lay cX11_lay 5 (some .int))) B.pre
  have hown : s.vm.findClass RX11 = some m.cls := findClass_of_methodNamed B.named
  have hlocks := B.notSynchronized
  subst hh
  have hD := hD0.self (sz := s.heap.size)
  have hA : ∀ q : Nat, s.heap.size ≤ q → (va_A (wR 157 ad (EX cs ad) mu) s.heap.size) q := fun q h => Or.inr h
  have hS : va_S (va_A (wR 157 ad (EX cs ad) mu) s.heap.size) s.heap s.heap [] := va_S.rf
  have hl := lv_entry ([.ref (ad 0), .int vr, .int vi, .int vv]) (n := 5) (Nat.le_of_ble_eq_true rfl)
  rw [lg_entry_eq]
  generalize (lg_sl ([.ref (ad 0), .int vr, .int vi, .int vv]) ++ List.replicate (5 - (lg_sl ([.ref (ad 0), .int vr, .int vi, .int vv])).length) Slot.unset).toArray = ls at hl ⊢
  have hl : lv_has ls 5 [(0, .ref (ad 0)), (1, .int vr), (2, .int vi), (3, .int vv)] := hl
  refine lv_aload_n hx hb dX11_lay_0 rfl (lv_at hl 0 rfl) ?_
  refine lv_iload_n hx hb dX11_lay_1 rfl (lv_at hl 1 rfl) ?_
  refine lv_iload_n hx hb dX11_lay_2 rfl (lv_at hl 2 rfl) ?_
  have hFc := fr_all (wR_D mu hD) hS hA
  refine va_calli (va_runV (As := [.int vr, .int vi]) (rest := []) ⟨hx, hb, hml, hown, hts⟩ (sx_refusedPlace l dC dI cs ad mu ok s.heap hP ((wR_D mu hD).weaken (fun _ _ _ _ => trivial)) vr vi) (cwV 2 hts (wU_V mw_2_217 mw_2_214 mw_2_216 mw_0_1 mw_1_1) rfl rfl rfl (by decide +kernel) ⟨Nat.le_of_ble_eq_true rfl, Nat.le_of_ble_eq_true rfl⟩) ⟨sz_c, va_recv hK hP (ci := 11) (q0 := 0) rfl (gX_0 cs ad mu), sz_m hK hz⟩ rfl rfl hl.1 rfl (lv_room (Nat.le_of_ble_eq_true rfl)) dX11_lay_3 ⟨Nat.zero_le _, Nat.zero_le _⟩) hS (fun q _ h => hFc q h) hFc (fun r1 xi1 t H1 locs ht hvm hw1 hB hz1 hk1 hS => ?_)
  have hP : va_P (dC, dI) vwCl (wR 157 ad (EX cs ad) xi1) H1 := by rw [← ht]; exact hB
  rcases hw1 with ⟨rfl, hxi1, f1⟩ | ⟨z1, ok, hkp1_0⟩
  · have hP : va_P (dC, dI) vwCl (wR 157 ad (EX cs ad) mu) H1 := by rw [← hxi1]; exact hP
    have f1 : 0 ≤ vr.toInt ∧ vr.toInt ≤ 5 ∧ 0 ≤ (mu (8 + vr.toNatClampNeg) 1).toInt ∧ (mu (8 + vr.toNatClampNeg) 1).toInt ≤ 40 ∧ 0 ≤ vi.toInt ∧ vi.toInt < (mu (8 + vr.toNatClampNeg) 1).toInt := f1
    refine lv_istore (lv' := [(4, .int 0), (0, .ref (ad 0)), (1, .int vr), (2, .int vi), (3, .int vv)]) hx hb dX11_lay_6 hl (by decide) rfl (fun ls hl => ?_)
    refine lv_iload hx hb dX11_lay_8 (lv_at hl 0 rfl) ?_
    refine lv_if_eq (tgt := 16) hx hb dX11_lay_10 (by decide) (fun _ => ?_) (fun c => absurd (by decide) c)
    refine lv_aload_n hx hb dX11_lay_16 rfl (lv_at hl 1 rfl) ?_
    refine lv_aload_n hx hb dX11_lay_17 rfl (lv_at hl 1 rfl) ?_
    refine va_get (D := (dC, dI)) (ci := 11) (v := .ref (ad 1)) (C := RX11) (T := TX11) (N := 11) hx hb hts inG11 hown hK hP 0 (gX_0 cs ad mu) rfl 0 (by decide) (hts _ (List.mem_cons_of_mem _ mw_2_158)) (fun _ h9 => h9) rfl dX11_lay_18 ?_
    refine lv_iload_n hx hb dX11_lay_21 rfl (lv_at hl 2 rfl) ?_
    have hx3 : 0 ≤ vr.toInt ∧ vr.toInt < ((6 : Nat) : Int) := ⟨by omega, by omega⟩
    refine va_aldq hx hb hK hP 1 2 (gX_1 cs ad mu) rfl (show vp_in vr 6 from vi_of hx3.1 hx3.2) dX11_lay_22 ?_
    have hk3 : 8 ≤ (8 + vr.toNatClampNeg) ∧ (8 + vr.toNatClampNeg) < 14 := ix_of hx3
    refine lq_v (.ref (ad (8 + vr.toNatClampNeg))) rfl ?_
    have hk4 : 21 ≤ (8 + vr.toNatClampNeg) + 13 ∧ (8 + vr.toNatClampNeg) + 13 < 27 := add_in 13 hk3.1 hk3.2
    refine va_get (D := (dC, dI)) (ci := 6) (v := .ref (ad ((8 + vr.toNatClampNeg) + 13))) (C := RX6) (T := TX6) (N := 2) hx hb hts inG6 hown hK hP (8 + vr.toNatClampNeg) (gX_row cs ad mu (8 + vr.toNatClampNeg) hk3.1 hk3.2) rfl 0 (by decide) (hts _ (List.mem_cons_of_mem _ mw_2_130)) (fun _ h9 => h9) rfl dX11_lay_23 ?_
    refine lv_iload_n hx hb dX11_lay_26 rfl (lv_at hl 3 rfl) ?_
    refine va_iald hx hb hK hP ((8 + vr.toNatClampNeg) + 13) 0 (gX_places cs ad mu ((8 + vr.toNatClampNeg) + 13) hk4.1 hk4.2) rfl (show vp_in vi 40 from vi_of (by omega) (by omega)) dX11_lay_27 ?_
    refine lv_topi (fun y5 ey5 => ?_)
    have by5 : y5.toInt = (mu ((8 + vr.toNatClampNeg) + 13) vi.toNatClampNeg).toInt := congrArg Int32.toInt ey5
    refine va_put (D := (dC, dI)) (ci := 11) (v := .int y5) (ty := .int) (C := RX11) (T := TX11) (N := 11) hx hb hts inG11 tyX11 tyX11_ok nmX11 hown hK hP (wR_D mu hD) hS 0 (gX_0 cs ad mu) rfl 10 (by decide) (hts _ (List.mem_cons_of_mem _ mw_2_168)) (fun _ h9 => h9) rfl (by decide +kernel) rfl rfl (Nat.le_of_ble_eq_true rfl) dX11_lay_28 (fun H locs hP _ hS => ?_)
    simp only [List.set_cons_succ, List.set_cons_zero] at hP
    refine wr_gen (upd (mu 0) 10 y5) hP ((hX_0_10 cs ad _ _)) (fun nu6 hn6 hP => ?_)
    have ok := tX_0_10 ok hn6
    have ez7 : y5 = nu6 ((8 + vr.toNatClampNeg) + 13) vi.toNatClampNeg := ey5.trans (congrFun (up_k hn6 (ne_lo (by decide) hk4.1).symm) vi.toNatClampNeg).symm
    have kp8 : (∀ k f : Nat, Nat.testBit 510 (gpX k f) = true → nu6 k f = mu k f) := kp_c 0 hn6 (fun _ => rfl) (by decide) (fun _ _ _ => rfl)
    have ez9 : y5 = nu6 0 10 := up_v hn6
    refine lv_aload_n hx hb dX11_lay_31 rfl (lv_at hl 1 rfl) ?_
    refine va_get (D := (dC, dI)) (ci := 11) (v := .ref (ad 1)) (C := RX11) (T := TX11) (N := 11) hx hb hts inG11 hown hK hP 0 (gX_0 cs ad nu6) rfl 0 (by decide) (hts _ (List.mem_cons_of_mem _ mw_2_158)) (fun _ h9 => h9) rfl dX11_lay_32 ?_
    refine lv_iload_n hx hb dX11_lay_35 rfl (lv_at hl 2 rfl) ?_
    have hx10 : 0 ≤ vr.toInt ∧ vr.toInt < ((6 : Nat) : Int) := ⟨by omega, by omega⟩
    refine va_aldq hx hb hK hP 1 2 (gX_1 cs ad nu6) rfl (show vp_in vr 6 from vi_of hx10.1 hx10.2) dX11_lay_36 ?_
    have hk10 : 8 ≤ (8 + vr.toNatClampNeg) ∧ (8 + vr.toNatClampNeg) < 14 := ix_of hx10
    refine lq_v (.ref (ad (8 + vr.toNatClampNeg))) rfl ?_
    have hk11 : 21 ≤ (8 + vr.toNatClampNeg) + 13 ∧ (8 + vr.toNatClampNeg) + 13 < 27 := add_in 13 hk10.1 hk10.2
    refine va_get (D := (dC, dI)) (ci := 6) (v := .ref (ad ((8 + vr.toNatClampNeg) + 13))) (C := RX6) (T := TX6) (N := 2) hx hb hts inG6 hown hK hP (8 + vr.toNatClampNeg) (gX_row cs ad nu6 (8 + vr.toNatClampNeg) hk10.1 hk10.2) rfl 0 (by decide) (hts _ (List.mem_cons_of_mem _ mw_2_130)) (fun _ h9 => h9) rfl dX11_lay_37 ?_
    refine lv_iload_n hx hb dX11_lay_40 rfl (lv_at hl 3 rfl) ?_
    refine lv_iload_n hx hb dX11_lay_41 rfl (lv_at hl 4 rfl) ?_
    refine va_iast hx hb hK hP (wR_D nu6 hD) hS ((8 + vr.toNatClampNeg) + 13) 0 (gX_places cs ad nu6 ((8 + vr.toNatClampNeg) + 13) hk11.1 hk11.2) rfl (show vp_in vi 40 from vi_of (by omega) (by omega)) dX11_lay_42 (fun H locs hP _ hS => ?_)
    refine wr_gen (upd (nu6 ((8 + vr.toNatClampNeg) + 13)) vi.toNatClampNeg vv) hP ((by rw [EX_places cs ad _ _ hk11.1 hk11.2])) (fun nu12 hn12 hP => ?_)
    have ok := tX_places_s ok ((8 + vr.toNatClampNeg) + 13) hk11.1 hk11.2 vi.toNatClampNeg hn12
    have ez13 : y5 = nu12 0 10 := ez9.trans (congrFun (up_k hn12 (ne_lo (by decide) hk11.1)) 10).symm
    have kp14 : (∀ k f : Nat, Nat.testBit 510 (gpX k f) = true → nu12 k f = mu k f) := kp_c 0 hn12 (fun _ => gpX_places hk11.1 hk11.2) (by decide) kp8
    refine lv_iconst (v := 1) hx hb dX11_lay_43 (by decide) ?_
    exact W.iret (v := 1) hx hb hr (fun t ht hW => ⟨⟨1, nu12, rfl, ⟨ok, trivial, kp14⟩, by first | (subst ht; exact hP) | (rw [ht]; exact hP) | (show va_P (dC, dI) vwCl (wR 157 ad (EX cs ad) nu12) t.heap; rw [ht]; exact hP)⟩, hS.F ht⟩) hS.2.2 dX11_lay_44
  · have kp2 : (∀ k f : Nat, Nat.testBit 510 (gpX k f) = true → xi1 k f = mu k f) := kp_t hkp1_0 (by decide) (fun _ _ _ => rfl)
    skip
    refine lv_istore (lv' := [(4, .int r1), (0, .ref (ad 0)), (1, .int vr), (2, .int vi), (3, .int vv)]) hx hb dX11_lay_6 hl (by decide) rfl (fun ls hl => ?_)
    refine lv_iload hx hb dX11_lay_8 (lv_at hl 0 rfl) ?_
    refine lv_if_eq (tgt := 16) hx hb dX11_lay_10 (by decide) (fun c_15 => by have c_15 : r1.toInt = 0 := il_eq c_15; exfalso; omega) (fun c_15 => ?_)
    have c_15 : ¬ r1.toInt = 0 := il_ne c_15
    refine lv_iload hx hb dX11_lay_13 (lv_at hl 0 rfl) ?_
    exact W.iret (v := r1) hx hb hr (fun t ht hW => ⟨⟨r1, xi1, rfl, ⟨ok, trivial, kp2⟩, by first | (subst ht; exact hP) | (rw [ht]; exact hP) | (show va_P (dC, dI) vwCl (wR 157 ad (EX cs ad) xi1) t.heap; rw [ht]; exact hP)⟩, hS.F ht⟩) hS.2.2 dX11_lay_15
set_option maxHeartbeats 4000000 in
set_option maxRecDepth 100000 in
/-- qx_at -/
theorem qx_at (l : Launch) (dC : Nat → ClassId) (dI : Nat → Nat → Nat) (cs : Nat → ClassId) (ad : Nat → Nat) (mu : Nat → Nat → Int32) (ok : okR loX hiX mu) (H : Heap) (hP : va_P (dC, dI) vwCl (wR 157 ad (EX cs ad) mu) H) (hD0 : va_D (fun _ => True) (wR 157 ad (EX cs ad) mu)) (vr : Int32) (vi : Int32) : Met l yX11_at (wU yX11_at cX11_at 4 (some .int)) ({ frames := 3, cells := 0, slots := 0, locals := 65 }) (va_Pc [.ref (ad 0), .int vr, .int vi] (sz_P (dC, dI) vwCl (tyW cs) H)) (va_Qi (fun (z : Int32) (xi : Nat → Nat → Int32) => okR loX hiX xi ∧ (True) ∧ (∀ k f : Nat, Nat.testBit 510 (gpX k f) = true → xi k f = mu k f)) (fun xi t => va_P (dC, dI) vwCl (wR 157 ad (EX cs ad) xi) t.heap) (va_A (wR 157 ad (EX cs ad) mu) H.size)) 0 0 (va_A (wR 157 ad (EX cs ad) mu) H.size) := by
  refine Met.ofW (cc := cX11_at) (maxL := 4) (ret := (some .int)) (by decide) rfl ?_
  intro p e s m args below meth c s₁ B hml hv
  obtain ⟨rfl, hh, hK, hz⟩ := hv
  have hx := B.exec
  have hb := B.bytes
  have hr := B.returns
  have hts := atoms_spec (ws := (wU yX11_at cX11_at 4 (some .int))) B.pre
  have hown : s.vm.findClass RX11 = some m.cls := findClass_of_methodNamed B.named
  have hlocks := B.notSynchronized
  subst hh
  have hD := hD0.self (sz := s.heap.size)
  have hA : ∀ q : Nat, s.heap.size ≤ q → (va_A (wR 157 ad (EX cs ad) mu) s.heap.size) q := fun q h => Or.inr h
  have hS : va_S (va_A (wR 157 ad (EX cs ad) mu) s.heap.size) s.heap s.heap [] := va_S.rf
  have hl := lv_entry ([.ref (ad 0), .int vr, .int vi]) (n := 4) (Nat.le_of_ble_eq_true rfl)
  rw [lg_entry_eq]
  generalize (lg_sl ([.ref (ad 0), .int vr, .int vi]) ++ List.replicate (4 - (lg_sl ([.ref (ad 0), .int vr, .int vi])).length) Slot.unset).toArray = ls at hl ⊢
  have hl : lv_has ls 4 [(0, .ref (ad 0)), (1, .int vr), (2, .int vi)] := hl
  refine lv_aload_n hx hb dX11_at_0 rfl (lv_at hl 0 rfl) ?_
  refine lv_iload_n hx hb dX11_at_1 rfl (lv_at hl 1 rfl) ?_
  refine lv_iload_n hx hb dX11_at_2 rfl (lv_at hl 2 rfl) ?_
  have hFc := fr_all (wR_D mu hD) hS hA
  refine va_calli (va_runV (As := [.int vr, .int vi]) (rest := []) ⟨hx, hb, hml, hown, hts⟩ (sx_refusedPlace l dC dI cs ad mu ok s.heap hP ((wR_D mu hD).weaken (fun _ _ _ _ => trivial)) vr vi) (cwV 2 hts (wU_V mw_2_217 mw_2_214 mw_2_216 mw_0_1 mw_1_1) rfl rfl rfl (by decide +kernel) ⟨Nat.le_of_ble_eq_true rfl, Nat.le_of_ble_eq_true rfl⟩) ⟨sz_c, va_recv hK hP (ci := 11) (q0 := 0) rfl (gX_0 cs ad mu), sz_m hK hz⟩ rfl rfl hl.1 rfl (lv_room (Nat.le_of_ble_eq_true rfl)) dX11_at_3 ⟨Nat.zero_le _, Nat.zero_le _⟩) hS (fun q _ h => hFc q h) hFc (fun r1 xi1 t H1 locs ht hvm hw1 hB hz1 hk1 hS => ?_)
  have hP : va_P (dC, dI) vwCl (wR 157 ad (EX cs ad) xi1) H1 := by rw [← ht]; exact hB
  rcases hw1 with ⟨rfl, hxi1, f1⟩ | ⟨z1, ok, hkp1_0⟩
  · have hP : va_P (dC, dI) vwCl (wR 157 ad (EX cs ad) mu) H1 := by rw [← hxi1]; exact hP
    have f1 : 0 ≤ vr.toInt ∧ vr.toInt ≤ 5 ∧ 0 ≤ (mu (8 + vr.toNatClampNeg) 1).toInt ∧ (mu (8 + vr.toNatClampNeg) 1).toInt ≤ 40 ∧ 0 ≤ vi.toInt ∧ vi.toInt < (mu (8 + vr.toNatClampNeg) 1).toInt := f1
    refine lv_istore_n (lv' := [(3, .int 0), (0, .ref (ad 0)), (1, .int vr), (2, .int vi)]) hx hb dX11_at_6 rfl hl (by decide) rfl (fun ls hl => ?_)
    refine lv_iload_n hx hb dX11_at_7 rfl (lv_at hl 0 rfl) ?_
    refine lv_if_eq (tgt := 13) hx hb dX11_at_8 (by decide) (fun _ => ?_) (fun c => absurd (by decide) c)
    refine lv_aload_n hx hb dX11_at_13 rfl (lv_at hl 1 rfl) ?_
    refine lv_aload_n hx hb dX11_at_14 rfl (lv_at hl 1 rfl) ?_
    refine va_get (D := (dC, dI)) (ci := 11) (v := .ref (ad 1)) (C := RX11) (T := TX11) (N := 11) hx hb hts inG11 hown hK hP 0 (gX_0 cs ad mu) rfl 0 (by decide) (hts _ (List.mem_cons_of_mem _ mw_2_158)) (fun _ h9 => h9) rfl dX11_at_15 ?_
    refine lv_iload_n hx hb dX11_at_18 rfl (lv_at hl 2 rfl) ?_
    have hx3 : 0 ≤ vr.toInt ∧ vr.toInt < ((6 : Nat) : Int) := ⟨by omega, by omega⟩
    refine va_aldq hx hb hK hP 1 2 (gX_1 cs ad mu) rfl (show vp_in vr 6 from vi_of hx3.1 hx3.2) dX11_at_19 ?_
    have hk3 : 8 ≤ (8 + vr.toNatClampNeg) ∧ (8 + vr.toNatClampNeg) < 14 := ix_of hx3
    refine lq_v (.ref (ad (8 + vr.toNatClampNeg))) rfl ?_
    have hk4 : 21 ≤ (8 + vr.toNatClampNeg) + 13 ∧ (8 + vr.toNatClampNeg) + 13 < 27 := add_in 13 hk3.1 hk3.2
    refine va_get (D := (dC, dI)) (ci := 6) (v := .ref (ad ((8 + vr.toNatClampNeg) + 13))) (C := RX6) (T := TX6) (N := 2) hx hb hts inG6 hown hK hP (8 + vr.toNatClampNeg) (gX_row cs ad mu (8 + vr.toNatClampNeg) hk3.1 hk3.2) rfl 0 (by decide) (hts _ (List.mem_cons_of_mem _ mw_2_130)) (fun _ h9 => h9) rfl dX11_at_20 ?_
    refine lv_iload_n hx hb dX11_at_23 rfl (lv_at hl 3 rfl) ?_
    refine va_iald hx hb hK hP ((8 + vr.toNatClampNeg) + 13) 0 (gX_places cs ad mu ((8 + vr.toNatClampNeg) + 13) hk4.1 hk4.2) rfl (show vp_in vi 40 from vi_of (by omega) (by omega)) dX11_at_24 ?_
    refine lv_topi (fun y5 ey5 => ?_)
    have by5 : y5.toInt = (mu ((8 + vr.toNatClampNeg) + 13) vi.toNatClampNeg).toInt := congrArg Int32.toInt ey5
    refine va_put (D := (dC, dI)) (ci := 11) (v := .int y5) (ty := .int) (C := RX11) (T := TX11) (N := 11) hx hb hts inG11 tyX11 tyX11_ok nmX11 hown hK hP (wR_D mu hD) hS 0 (gX_0 cs ad mu) rfl 10 (by decide) (hts _ (List.mem_cons_of_mem _ mw_2_168)) (fun _ h9 => h9) rfl (by decide +kernel) rfl rfl (Nat.le_of_ble_eq_true rfl) dX11_at_25 (fun H locs hP _ hS => ?_)
    simp only [List.set_cons_succ, List.set_cons_zero] at hP
    refine wr_gen (upd (mu 0) 10 y5) hP ((hX_0_10 cs ad _ _)) (fun nu6 hn6 hP => ?_)
    have ok := tX_0_10 ok hn6
    have ez7 : y5 = nu6 ((8 + vr.toNatClampNeg) + 13) vi.toNatClampNeg := ey5.trans (congrFun (up_k hn6 (ne_lo (by decide) hk4.1).symm) vi.toNatClampNeg).symm
    have kp8 : (∀ k f : Nat, Nat.testBit 510 (gpX k f) = true → nu6 k f = mu k f) := kp_c 0 hn6 (fun _ => rfl) (by decide) (fun _ _ _ => rfl)
    have ez9 : y5 = nu6 0 10 := up_v hn6
    refine lv_iconst (v := 1) hx hb dX11_at_28 (by decide) ?_
    exact W.iret (v := 1) hx hb hr (fun t ht hW => ⟨⟨1, nu6, rfl, ⟨ok, trivial, kp8⟩, by first | (subst ht; exact hP) | (rw [ht]; exact hP) | (show va_P (dC, dI) vwCl (wR 157 ad (EX cs ad) nu6) t.heap; rw [ht]; exact hP)⟩, hS.F ht⟩) hS.2.2 dX11_at_29
  · have kp2 : (∀ k f : Nat, Nat.testBit 510 (gpX k f) = true → xi1 k f = mu k f) := kp_t hkp1_0 (by decide) (fun _ _ _ => rfl)
    skip
    refine lv_istore_n (lv' := [(3, .int r1), (0, .ref (ad 0)), (1, .int vr), (2, .int vi)]) hx hb dX11_at_6 rfl hl (by decide) rfl (fun ls hl => ?_)
    refine lv_iload_n hx hb dX11_at_7 rfl (lv_at hl 0 rfl) ?_
    refine lv_if_eq (tgt := 13) hx hb dX11_at_8 (by decide) (fun c_10 => by have c_10 : r1.toInt = 0 := il_eq c_10; exfalso; omega) (fun c_10 => ?_)
    have c_10 : ¬ r1.toInt = 0 := il_ne c_10
    refine lv_iload_n hx hb dX11_at_11 rfl (lv_at hl 0 rfl) ?_
    exact W.iret (v := r1) hx hb hr (fun t ht hW => ⟨⟨r1, xi1, rfl, ⟨ok, trivial, kp2⟩, by first | (subst ht; exact hP) | (rw [ht]; exact hP) | (show va_P (dC, dI) vwCl (wR 157 ad (EX cs ad) xi1) t.heap; rw [ht]; exact hP)⟩, hS.F ht⟩) hS.2.2 dX11_at_12
set_option maxHeartbeats 4000000 in
set_option maxRecDepth 100000 in
/-- qx_tear -/
theorem qx_tear (l : Launch) (dC : Nat → ClassId) (dI : Nat → Nat → Nat) (cs : Nat → ClassId) (ad : Nat → Nat) (mu : Nat → Nat → Int32) (ok : okR loX hiX mu) (H : Heap) (hP : va_P (dC, dI) vwCl (wR 157 ad (EX cs ad) mu) H) (hD0 : va_D (fun _ => True) (wR 157 ad (EX cs ad) mu)) (vr : Int32) : Met l yX11_tear (wU yX11_tear cX11_tear 3 (some .int)) ({ frames := 2, cells := 0, slots := 0, locals := 42 }) (va_Pc [.ref (ad 0), .int vr] (sz_P (dC, dI) vwCl (tyW cs) H)) (va_Qi (fun (z : Int32) (xi : Nat → Nat → Int32) => okR loX hiX xi ∧ (True) ∧ (∀ k f : Nat, Nat.testBit 510 (gpX k f) = true → xi k f = mu k f)) (fun xi t => va_P (dC, dI) vwCl (wR 157 ad (EX cs ad) xi) t.heap) (va_A (wR 157 ad (EX cs ad) mu) H.size)) 0 0 (va_A (wR 157 ad (EX cs ad) mu) H.size) := by
  refine Met.ofW (cc := cX11_tear) (maxL := 3) (ret := (some .int)) (by decide) rfl ?_
  intro p e s m args below meth c s₁ B hml hv
  obtain ⟨rfl, hh, hK, hz⟩ := hv
  have hx := B.exec
  have hb := B.bytes
  have hr := B.returns
  have hts := atoms_spec (ws := (wU yX11_tear cX11_tear 3 (some .int))) B.pre
  have hown : s.vm.findClass RX11 = some m.cls := findClass_of_methodNamed B.named
  have hlocks := B.notSynchronized
  subst hh
  have hD := hD0.self (sz := s.heap.size)
  have hA : ∀ q : Nat, s.heap.size ≤ q → (va_A (wR 157 ad (EX cs ad) mu) s.heap.size) q := fun q h => Or.inr h
  have hS : va_S (va_A (wR 157 ad (EX cs ad) mu) s.heap.size) s.heap s.heap [] := va_S.rf
  have hl := lv_entry ([.ref (ad 0), .int vr]) (n := 3) (Nat.le_of_ble_eq_true rfl)
  rw [lg_entry_eq]
  generalize (lg_sl ([.ref (ad 0), .int vr]) ++ List.replicate (3 - (lg_sl ([.ref (ad 0), .int vr])).length) Slot.unset).toArray = ls at hl ⊢
  have hl : lv_has ls 3 [(0, .ref (ad 0)), (1, .int vr)] := hl
  refine lv_aload_n hx hb dX11_tear_0 rfl (lv_at hl 0 rfl) ?_
  refine lv_iload_n hx hb dX11_tear_1 rfl (lv_at hl 1 rfl) ?_
  have hFc := fr_all (wR_D mu hD) hS hA
  refine va_calli (va_runV (As := [.int vr]) (rest := []) ⟨hx, hb, hml, hown, hts⟩ (sx_refusedRow l dC dI cs ad mu ok s.heap hP ((wR_D mu hD).weaken (fun _ _ _ _ => trivial)) vr) (cwV 1 hts (wU_V mw_2_221 mw_2_218 mw_2_220 mw_0_2 mw_1_1) rfl rfl rfl (by decide +kernel) ⟨Nat.le_of_ble_eq_true rfl, Nat.le_of_ble_eq_true rfl⟩) ⟨sz_c, va_recv hK hP (ci := 11) (q0 := 0) rfl (gX_0 cs ad mu), sz_m hK hz⟩ rfl rfl hl.1 rfl (lv_room (Nat.le_of_ble_eq_true rfl)) dX11_tear_2 ⟨Nat.zero_le _, Nat.zero_le _⟩) hS (fun q _ h => hFc q h) hFc (fun r1 xi1 t H1 locs ht hvm hw1 hB hz1 hk1 hS => ?_)
  have hP : va_P (dC, dI) vwCl (wR 157 ad (EX cs ad) xi1) H1 := by rw [← ht]; exact hB
  obtain ⟨hfe1, hw1⟩ := hw1
  rcases hw1 with ⟨rfl, hxi1, f1⟩ | ⟨z1, ok, hkp1_0⟩
  · have hP : va_P (dC, dI) vwCl (wR 157 ad (EX cs ad) mu) H1 := by rw [← hxi1]; exact hP
    have f1 : 0 ≤ vr.toInt ∧ vr.toInt ≤ 5 ∧ 0 ≤ (mu (8 + vr.toNatClampNeg) 1).toInt := f1
    refine lv_istore_n (lv' := [(2, .int 0), (0, .ref (ad 0)), (1, .int vr)]) hx hb dX11_tear_5 rfl hl (by decide) rfl (fun ls hl => ?_)
    refine lv_iload_n hx hb dX11_tear_6 rfl (lv_at hl 0 rfl) ?_
    refine lv_if_eq (tgt := 12) hx hb dX11_tear_7 (by decide) (fun _ => ?_) (fun c => absurd (by decide) c)
    refine lv_aload_n hx hb dX11_tear_12 rfl (lv_at hl 1 rfl) ?_
    refine va_get (D := (dC, dI)) (ci := 11) (v := .ref (ad 1)) (C := RX11) (T := TX11) (N := 11) hx hb hts inG11 hown hK hP 0 (gX_0 cs ad mu) rfl 0 (by decide) (hts _ (List.mem_cons_of_mem _ mw_2_158)) (fun _ h9 => h9) rfl dX11_tear_13 ?_
    refine lv_iload_n hx hb dX11_tear_16 rfl (lv_at hl 2 rfl) ?_
    have hx3 : 0 ≤ vr.toInt ∧ vr.toInt < ((6 : Nat) : Int) := ⟨by omega, by omega⟩
    refine va_aldq hx hb hK hP 1 2 (gX_1 cs ad mu) rfl (show vp_in vr 6 from vi_of hx3.1 hx3.2) dX11_tear_17 ?_
    have hk3 : 8 ≤ (8 + vr.toNatClampNeg) ∧ (8 + vr.toNatClampNeg) < 14 := ix_of hx3
    refine lq_v (.ref (ad (8 + vr.toNatClampNeg))) rfl ?_
    refine lv_iconst (v := (-1)) hx hb dX11_tear_18 (by decide) ?_
    refine va_put (D := (dC, dI)) (ci := 6) (v := .int (-1)) (ty := .int) (C := RX6) (T := TX6) (N := 2) hx hb hts inG6 tyX6 tyX6_ok nmX6 hown hK hP (wR_D mu hD) hS (8 + vr.toNatClampNeg) (gX_row cs ad mu (8 + vr.toNatClampNeg) hk3.1 hk3.2) rfl 1 (by decide) (hts _ (List.mem_cons_of_mem _ mw_2_134)) (fun _ h9 => h9) rfl (by decide +kernel) rfl rfl (Nat.le_of_ble_eq_true rfl) dX11_tear_19 (fun H locs hP _ hS => ?_)
    simp only [List.set_cons_succ, List.set_cons_zero] at hP
    refine wr_gen (upd (mu (8 + vr.toNatClampNeg)) 1 (-1)) hP ((hX_row_1 cs ad _ _ (8 + vr.toNatClampNeg) hk3.1 hk3.2)) (fun nu4 hn4 hP => ?_)
    have ok := tX_row_1 ok (8 + vr.toNatClampNeg) hk3.1 hk3.2 hn4 (by have h9 : ((-1) : Int32).toInt = -1 := rfl; exact ⟨by omega, by omega⟩)
    have kp5 : (∀ k f : Nat, Nat.testBit 510 (gpX k f) = true → nu4 k f = mu k f) := kp_c 0 hn4 (fun _ => gpX_row hk3.1 hk3.2) (by decide) (fun _ _ _ => rfl)
    have ez6 : (-1) = nu4 (8 + vr.toNatClampNeg) 1 := up_v hn4
    refine lv_iconst (v := 1) hx hb dX11_tear_22 (by decide) ?_
    exact W.iret (v := 1) hx hb hr (fun t ht hW => ⟨⟨1, nu4, rfl, ⟨ok, trivial, kp5⟩, by first | (subst ht; exact hP) | (rw [ht]; exact hP) | (show va_P (dC, dI) vwCl (wR 157 ad (EX cs ad) nu4) t.heap; rw [ht]; exact hP)⟩, hS.F ht⟩) hS.2.2 dX11_tear_23
  · have kp2 : (∀ k f : Nat, Nat.testBit 510 (gpX k f) = true → xi1 k f = mu k f) := kp_t hkp1_0 (by decide) (fun _ _ _ => rfl)
    skip
    refine lv_istore_n (lv' := [(2, .int r1), (0, .ref (ad 0)), (1, .int vr)]) hx hb dX11_tear_5 rfl hl (by decide) rfl (fun ls hl => ?_)
    refine lv_iload_n hx hb dX11_tear_6 rfl (lv_at hl 0 rfl) ?_
    refine lv_if_eq (tgt := 12) hx hb dX11_tear_7 (by decide) (fun c_7 => by have c_7 : r1.toInt = 0 := il_eq c_7; exfalso; omega) (fun c_7 => ?_)
    have c_7 : ¬ r1.toInt = 0 := il_ne c_7
    refine lv_iload_n hx hb dX11_tear_10 rfl (lv_at hl 0 rfl) ?_
    exact W.iret (v := r1) hx hb hr (fun t ht hW => ⟨⟨r1, xi1, rfl, ⟨ok, trivial, kp2⟩, by first | (subst ht; exact hP) | (rw [ht]; exact hP) | (show va_P (dC, dI) vwCl (wR 157 ad (EX cs ad) xi1) t.heap; rw [ht]; exact hP)⟩, hS.F ht⟩) hS.2.2 dX11_tear_11
set_option maxHeartbeats 4000000 in
set_option maxRecDepth 100000 in
/-- qx_put -/
theorem qx_put (l : Launch) (dC : Nat → ClassId) (dI : Nat → Nat → Nat) (cs : Nat → ClassId) (ad : Nat → Nat) (mu : Nat → Nat → Int32) (ok : okR loX hiX mu) (H : Heap) (hP : va_P (dC, dI) vwCl (wR 157 ad (EX cs ad) mu) H) (hD0 : va_D (fun _ => True) (wR 157 ad (EX cs ad) mu)) (vt : Int32) (vi : Int32) (vv : Int32) : Met l yX11_put (wU yX11_put cX11_put 6 (some .int)) ({ frames := 2, cells := 0, slots := 0, locals := 42 }) (va_Pc [.ref (ad 0), .int vt, .int vi, .int vv] (sz_P (dC, dI) vwCl (tyW cs) H)) (va_Qi (fun (z : Int32) (xi : Nat → Nat → Int32) => (z, xi) = F_qx_put mu vt vi vv ∧ okR loX hiX xi ∧ (True) ∧ (∀ k f : Nat, Nat.testBit 508 (gpX k f) = true → xi k f = mu k f)) (fun xi t => va_P (dC, dI) vwCl (wR 157 ad (EX cs ad) xi) t.heap) (va_A (wR 157 ad (EX cs ad) mu) H.size)) 0 0 (va_A (wR 157 ad (EX cs ad) mu) H.size) := by
  refine Met.ofW (cc := cX11_put) (maxL := 6) (ret := (some .int)) (by decide) rfl ?_
  intro p e s m args below meth c s₁ B hml hv
  obtain ⟨rfl, hh, hK, hz⟩ := hv
  have hx := B.exec
  have hb := B.bytes
  have hr := B.returns
  have hts := atoms_spec (ws := (wU yX11_put cX11_put 6 (some .int))) B.pre
  have hown : s.vm.findClass RX11 = some m.cls := findClass_of_methodNamed B.named
  have hlocks := B.notSynchronized
  subst hh
  have hD := hD0.self (sz := s.heap.size)
  have hA : ∀ q : Nat, s.heap.size ≤ q → (va_A (wR 157 ad (EX cs ad) mu) s.heap.size) q := fun q h => Or.inr h
  have hS : va_S (va_A (wR 157 ad (EX cs ad) mu) s.heap.size) s.heap s.heap [] := va_S.rf
  have hl := lv_entry ([.ref (ad 0), .int vt, .int vi, .int vv]) (n := 6) (Nat.le_of_ble_eq_true rfl)
  rw [lg_entry_eq]
  generalize (lg_sl ([.ref (ad 0), .int vt, .int vi, .int vv]) ++ List.replicate (6 - (lg_sl ([.ref (ad 0), .int vt, .int vi, .int vv])).length) Slot.unset).toArray = ls at hl ⊢
  have hl : lv_has ls 6 [(0, .ref (ad 0)), (1, .int vt), (2, .int vi), (3, .int vv)] := hl
  obtain ⟨fz, hfz⟩ : ∃ z, F_qx_put mu vt vi vv = z := ⟨_, rfl⟩
  have hF := hfz
  unfold F_qx_put at hF
  refine lv_aload_n hx hb dX11_put_0 rfl (lv_at hl 0 rfl) ?_
  refine lv_iload_n hx hb dX11_put_1 rfl (lv_at hl 1 rfl) ?_
  have hFc := fr_all (wR_D mu hD) hS hA
  refine va_calli (va_runV (As := [.int vt]) (rest := []) ⟨hx, hb, hml, hown, hts⟩ (sx_refusedText l dC dI cs ad mu ok s.heap hP ((wR_D mu hD).weaken (fun _ _ _ _ => trivial)) vt) (cwV 1 hts (wU_V mw_3_30 mw_3_27 mw_3_29 mw_0_3 mw_1_1) rfl rfl rfl (by decide +kernel) ⟨Nat.le_of_ble_eq_true rfl, Nat.le_of_ble_eq_true rfl⟩) ⟨sz_c, va_recv hK hP (ci := 11) (q0 := 0) rfl (gX_0 cs ad mu), sz_m hK hz⟩ rfl rfl hl.1 rfl (lv_room (Nat.le_of_ble_eq_true rfl)) dX11_put_2 ⟨Nat.zero_le _, Nat.zero_le _⟩) hS (fun q _ h => hFc q h) hFc (fun r1 xi1 t H1 locs ht hvm hw1 hB hz1 hk1 hS => ?_)
  have hP : va_P (dC, dI) vwCl (wR 157 ad (EX cs ad) xi1) H1 := by rw [← ht]; exact hB
  obtain ⟨hfe1, hw1⟩ := hw1
  have hF := mi_letp hF hfe1
  rcases hw1 with ⟨rfl, hxi1, f1⟩ | ⟨z1, ok, hkp1_0⟩
  · have hF := (if_pos rfl).symm.trans hF
    have hP : va_P (dC, dI) vwCl (wR 157 ad (EX cs ad) mu) H1 := by rw [← hxi1]; exact hP
    have f1 : 0 ≤ vt.toInt ∧ vt.toInt ≤ 3 ∧ 0 ≤ (mu (14 + vt.toNatClampNeg) 1).toInt := f1
    refine lv_istore (lv' := [(4, .int 0), (0, .ref (ad 0)), (1, .int vt), (2, .int vi), (3, .int vv)]) hx hb dX11_put_5 hl (by decide) rfl (fun ls hl => ?_)
    refine lv_iload hx hb dX11_put_7 (lv_at hl 0 rfl) ?_
    refine lv_if_eq (tgt := 15) hx hb dX11_put_9 (by decide) (fun _ => ?_) (fun c => absurd (by decide) c)
    refine lv_iload_n hx hb dX11_put_15 rfl (lv_at hl 3 rfl) ?_
    refine lv_if_lt (tgt := 32) hx hb dX11_put_16 (by decide) (fun c_3 => ?_) (fun c_3 => ?_)
    · have hF := (if_pos c_3).symm.trans hF
      have c_3 : vi.toInt < 0 := il_lt c_3
      refine lv_aload_n hx hb dX11_put_32 rfl (lv_at hl 1 rfl) ?_
      refine lv_iconst (v := 2) hx hb dX11_put_33 (by decide) ?_
      have hFc := fr_all (wR_D mu hD) hS hA
      refine va_calli (va_runV (As := [.int 2]) (rest := []) ⟨hx, hb, hml, hown, hts⟩ (sx_found l dC dI cs ad mu ok H1 hP ((wR_D mu hD).weaken (fun _ _ _ _ => trivial)) 2 (by have h50 : (2 : Int32).toInt = 2 := rfl; omega)) (cwV 1 hts (wU_V mw_2_202 mw_2_199 mw_2_201 mw_0_0 mw_1_1) rfl rfl rfl (by decide +kernel) ⟨Nat.le_of_ble_eq_true rfl, Nat.le_of_ble_eq_true rfl⟩) ⟨sz_c, va_recv hK hP (ci := 11) (q0 := 0) rfl (gX_0 cs ad mu), sz_m hK hz⟩ rfl rfl hl.1 rfl (lv_room (Nat.le_of_ble_eq_true rfl)) dX11_put_34 ⟨Nat.zero_le _, Nat.zero_le _⟩) hS (fun q _ h => hFc q h) hFc (fun r4 xi4 t H4 locs ht hvm hw4 hB hz1 hk1 hS => ?_)
      have hP : va_P (dC, dI) vwCl (wR 157 ad (EX cs ad) xi4) H4 := by rw [← ht]; exact hB
      obtain ⟨hfe4, ok, hw4, hkp4_0⟩ := hw4
      have hF := mi_letp hF hfe4
      have kp5 : (∀ k f : Nat, Nat.testBit 508 (gpX k f) = true → xi4 k f = mu k f) := kp_t hkp4_0 (by decide) (fun _ _ _ => rfl)
      have gr4 : -3 ≤ r4.toInt ∧ r4.toInt ≤ -3 := hw4
      exact W.iret (v := r4) hx hb hr (fun t ht hW => ⟨⟨r4, xi4, rfl, ⟨hF.trans hfz.symm, ok, trivial, kp5⟩, by first | (subst ht; exact hP) | (rw [ht]; exact hP) | (show va_P (dC, dI) vwCl (wR 157 ad (EX cs ad) xi4) t.heap; rw [ht]; exact hP)⟩, hS.F ht⟩) hS.2.2 dX11_put_37
    · have hF := (if_neg c_3).symm.trans hF
      have c_3 : 0 ≤ vi.toInt := il_nlt c_3
      refine lv_iload_n hx hb dX11_put_19 rfl (lv_at hl 3 rfl) ?_
      refine lv_aload_n hx hb dX11_put_20 rfl (lv_at hl 1 rfl) ?_
      refine va_get (D := (dC, dI)) (ci := 11) (v := .ref (ad 2)) (C := RX11) (T := TX11) (N := 11) hx hb hts inG11 hown hK hP 0 (gX_0 cs ad mu) rfl 1 (by decide) (hts _ (List.mem_cons_of_mem _ mw_2_159)) (fun _ h9 => h9) rfl dX11_put_21 ?_
      refine lv_iload_n hx hb dX11_put_24 rfl (lv_at hl 2 rfl) ?_
      have hx6 : 0 ≤ vt.toInt ∧ vt.toInt < ((4 : Nat) : Int) := ⟨by omega, by omega⟩
      refine va_aldq hx hb hK hP 2 3 (gX_2 cs ad mu) rfl (show vp_in vt 4 from vi_of hx6.1 hx6.2) dX11_put_25 ?_
      have hk6 : 14 ≤ (14 + vt.toNatClampNeg) ∧ (14 + vt.toNatClampNeg) < 18 := ix_of hx6
      refine lq_v (.ref (ad (14 + vt.toNatClampNeg))) rfl ?_
      refine va_get (D := (dC, dI)) (ci := 9) (v := .int (mu (14 + vt.toNatClampNeg) 1)) (C := RX9) (T := TX9) (N := 2) hx hb hts inG9 hown hK hP (14 + vt.toNatClampNeg) (gX_text cs ad mu (14 + vt.toNatClampNeg) hk6.1 hk6.2) rfl 1 (by decide) (hts _ (List.mem_cons_of_mem _ mw_2_150)) (fun _ h9 => h9) rfl dX11_put_26 ?_
      refine lv_topi (fun y7 ey7 => ?_)
      have hF := mi_let hF ey7
      have by7 : y7.toInt = (mu (14 + vt.toNatClampNeg) 1).toInt := congrArg Int32.toInt ey7
      have gy7 : -1 ≤ y7.toInt ∧ y7.toInt ≤ 80 := by rw [ey7]; exact rX_text_1 ok (14 + vt.toNatClampNeg) hk6.1 hk6.2
      refine lv_icmp_lt (tgt := 38) hx hb dX11_put_29 (by decide) (fun c_8 => ?_) (fun c_8 => ?_)
      · have hF := (if_pos c_8).symm.trans hF
        have c_8 : vi.toInt < y7.toInt := il_lt c_8
        refine lv_aload_n hx hb dX11_put_38 rfl (lv_at hl 1 rfl) ?_
        refine va_get (D := (dC, dI)) (ci := 11) (v := .ref (ad 2)) (C := RX11) (T := TX11) (N := 11) hx hb hts inG11 hown hK hP 0 (gX_0 cs ad mu) rfl 1 (by decide) (hts _ (List.mem_cons_of_mem _ mw_2_159)) (fun _ h9 => h9) rfl dX11_put_39 ?_
        refine lv_iload_n hx hb dX11_put_42 rfl (lv_at hl 2 rfl) ?_
        have hx9 : 0 ≤ vt.toInt ∧ vt.toInt < ((4 : Nat) : Int) := ⟨by omega, by omega⟩
        refine va_aldq hx hb hK hP 2 3 (gX_2 cs ad mu) rfl (show vp_in vt 4 from vi_of hx9.1 hx9.2) dX11_put_43 ?_
        have hk9 : 14 ≤ (14 + vt.toNatClampNeg) ∧ (14 + vt.toNatClampNeg) < 18 := ix_of hx9
        refine lq_v (.ref (ad (14 + vt.toNatClampNeg))) rfl ?_
        have hk10 : 27 ≤ (14 + vt.toNatClampNeg) + 13 ∧ (14 + vt.toNatClampNeg) + 13 < 31 := add_in 13 hk9.1 hk9.2
        refine va_get (D := (dC, dI)) (ci := 9) (v := .ref (ad ((14 + vt.toNatClampNeg) + 13))) (C := RX9) (T := TX9) (N := 2) hx hb hts inG9 hown hK hP (14 + vt.toNatClampNeg) (gX_text cs ad mu (14 + vt.toNatClampNeg) hk9.1 hk9.2) rfl 0 (by decide) (hts _ (List.mem_cons_of_mem _ mw_2_147)) (fun _ h9 => h9) rfl dX11_put_44 ?_
        refine lv_iload_n hx hb dX11_put_47 rfl (lv_at hl 3 rfl) ?_
        refine va_bald hx hb hK hP ((14 + vt.toNatClampNeg) + 13) 1 (gX_bytes cs ad mu ((14 + vt.toNatClampNeg) + 13) hk10.1 hk10.2) rfl (show vp_in vi 80 from vi_of (by omega) (by omega)) dX11_put_48 ?_
        refine lv_topi (fun y11 ey11 => ?_)
        have hF := mi_let hF ey11
        have by11 : y11.toInt = (mu ((14 + vt.toNatClampNeg) + 13) vi.toNatClampNeg).toInt := congrArg Int32.toInt ey11
        have gy11 : -128 ≤ y11.toInt ∧ y11.toInt ≤ 127 := by rw [ey11]; exact rX_bytes_s ok ((14 + vt.toNatClampNeg) + 13) hk10.1 hk10.2 vi.toNatClampNeg
        refine lv_istore (lv' := [(5, .int y11), (4, .int 0), (0, .ref (ad 0)), (1, .int vt), (2, .int vi), (3, .int vv)]) hx hb dX11_put_49 hl (by decide) rfl (fun ls hl => ?_)
        refine lv_aload_n hx hb dX11_put_51 rfl (lv_at hl 2 rfl) ?_
        refine va_get (D := (dC, dI)) (ci := 11) (v := .ref (ad 2)) (C := RX11) (T := TX11) (N := 11) hx hb hts inG11 hown hK hP 0 (gX_0 cs ad mu) rfl 1 (by decide) (hts _ (List.mem_cons_of_mem _ mw_2_159)) (fun _ h9 => h9) rfl dX11_put_52 ?_
        refine lv_iload_n hx hb dX11_put_55 rfl (lv_at hl 3 rfl) ?_
        have hx12 : 0 ≤ vt.toInt ∧ vt.toInt < ((4 : Nat) : Int) := ⟨by omega, by omega⟩
        refine va_aldq hx hb hK hP 2 3 (gX_2 cs ad mu) rfl (show vp_in vt 4 from vi_of hx12.1 hx12.2) dX11_put_56 ?_
        have hk12 : 14 ≤ (14 + vt.toNatClampNeg) ∧ (14 + vt.toNatClampNeg) < 18 := ix_of hx12
        refine lq_v (.ref (ad (14 + vt.toNatClampNeg))) rfl ?_
        have hk13 : 27 ≤ (14 + vt.toNatClampNeg) + 13 ∧ (14 + vt.toNatClampNeg) + 13 < 31 := add_in 13 hk12.1 hk12.2
        refine va_get (D := (dC, dI)) (ci := 9) (v := .ref (ad ((14 + vt.toNatClampNeg) + 13))) (C := RX9) (T := TX9) (N := 2) hx hb hts inG9 hown hK hP (14 + vt.toNatClampNeg) (gX_text cs ad mu (14 + vt.toNatClampNeg) hk12.1 hk12.2) rfl 0 (by decide) (hts _ (List.mem_cons_of_mem _ mw_2_147)) (fun _ h9 => h9) rfl dX11_put_57 ?_
        refine lv_iload_n hx hb dX11_put_60 rfl (lv_at hl 4 rfl) ?_
        refine lv_iload_n hx hb dX11_put_61 rfl (lv_at hl 5 rfl) ?_
        refine lv_i2b hx hb dX11_put_62 rfl ?_
        refine lv_topi (fun t14 et14 => ?_)
        have hF := mi_let hF et14
        have gt14 : -128 ≤ t14.toInt ∧ t14.toInt ≤ 127 := by rw [et14]; exact tb_rng _
        refine va_bast hx hb hK hP (wR_D mu hD) hS ((14 + vt.toNatClampNeg) + 13) 1 (gX_bytes cs ad mu ((14 + vt.toNatClampNeg) + 13) hk13.1 hk13.2) rfl (show vp_in vi 80 from vi_of (by omega) (by omega)) dX11_put_63 (fun H locs hP _ hS => ?_)
        have gb15 : -128 ≤ (vp_nar .byte t14).toInt ∧ (vp_nar .byte t14).toInt ≤ 127 := tb_rng _
        refine wr_gen (upd (mu ((14 + vt.toNatClampNeg) + 13)) vi.toNatClampNeg (vp_nar .byte t14)) hP ((by rw [EX_bytes cs ad _ _ hk13.1 hk13.2])) (fun nu16 hn16 hP => ?_)
        have hF := mi_let hF hn16.symm
        have ok := tX_bytes_s ok ((14 + vt.toNatClampNeg) + 13) hk13.1 hk13.2 vi.toNatClampNeg hn16 (by omega)
        have ez17 : y7 = nu16 (14 + vt.toNatClampNeg) 1 := ey7.trans (congrFun (up_k hn16 (ne_ff hk6.2 (by decide) hk13.1)) 1).symm
        have kp18 : (∀ k f : Nat, Nat.testBit 508 (gpX k f) = true → nu16 k f = mu k f) := kp_c 1 hn16 (fun _ => gpX_bytes hk13.1 hk13.2) (by decide) (fun _ _ _ => rfl)
        refine lv_iload hx hb dX11_put_64 (lv_at hl 0 rfl) ?_
        refine lv_sipush (v := 1000) hx hb dX11_put_66 (by decide) ?_
        refine lv_iadd hx hb dX11_put_69 ?_
        refine lv_topi (fun t19 et19 => ?_)
        have hF := mi_let hF et19
        have at19 : t19.toInt = y11.toInt + 1000 := by rw [et19]; exact tI_add (rfl : y11.toInt = _) (rfl : (1000 : Int32).toInt = 1000) (by omega) (by omega)
        exact W.iret (v := t19) hx hb hr (fun t ht hW => ⟨⟨t19, nu16, rfl, ⟨hF.trans hfz.symm, ok, trivial, kp18⟩, by first | (subst ht; exact hP) | (rw [ht]; exact hP) | (show va_P (dC, dI) vwCl (wR 157 ad (EX cs ad) nu16) t.heap; rw [ht]; exact hP)⟩, hS.F ht⟩) hS.2.2 dX11_put_70
      · have hF := (if_neg c_8).symm.trans hF
        have c_8 : y7.toInt ≤ vi.toInt := il_nlt c_8
        refine lv_aload_n hx hb dX11_put_32 rfl (lv_at hl 1 rfl) ?_
        refine lv_iconst (v := 2) hx hb dX11_put_33 (by decide) ?_
        have hFc := fr_all (wR_D mu hD) hS hA
        refine va_calli (va_runV (As := [.int 2]) (rest := []) ⟨hx, hb, hml, hown, hts⟩ (sx_found l dC dI cs ad mu ok H1 hP ((wR_D mu hD).weaken (fun _ _ _ _ => trivial)) 2 (by have h50 : (2 : Int32).toInt = 2 := rfl; omega)) (cwV 1 hts (wU_V mw_2_202 mw_2_199 mw_2_201 mw_0_0 mw_1_1) rfl rfl rfl (by decide +kernel) ⟨Nat.le_of_ble_eq_true rfl, Nat.le_of_ble_eq_true rfl⟩) ⟨sz_c, va_recv hK hP (ci := 11) (q0 := 0) rfl (gX_0 cs ad mu), sz_m hK hz⟩ rfl rfl hl.1 rfl (lv_room (Nat.le_of_ble_eq_true rfl)) dX11_put_34 ⟨Nat.zero_le _, Nat.zero_le _⟩) hS (fun q _ h => hFc q h) hFc (fun r20 xi20 t H20 locs ht hvm hw20 hB hz1 hk1 hS => ?_)
        have hP : va_P (dC, dI) vwCl (wR 157 ad (EX cs ad) xi20) H20 := by rw [← ht]; exact hB
        obtain ⟨hfe20, ok, hw20, hkp20_0⟩ := hw20
        have hF := mi_letp hF hfe20
        have kp21 : (∀ k f : Nat, Nat.testBit 508 (gpX k f) = true → xi20 k f = mu k f) := kp_t hkp20_0 (by decide) (fun _ _ _ => rfl)
        have gr20 : -3 ≤ r20.toInt ∧ r20.toInt ≤ -3 := hw20
        exact W.iret (v := r20) hx hb hr (fun t ht hW => ⟨⟨r20, xi20, rfl, ⟨hF.trans hfz.symm, ok, trivial, kp21⟩, by first | (subst ht; exact hP) | (rw [ht]; exact hP) | (show va_P (dC, dI) vwCl (wR 157 ad (EX cs ad) xi20) t.heap; rw [ht]; exact hP)⟩, hS.F ht⟩) hS.2.2 dX11_put_37
  · have hF := (if_neg (show ¬ r1 = 0 from fun h => by have h9 := congrArg Int32.toInt h; have h8 : (0 : Int32).toInt = 0 := rfl; omega)).symm.trans hF
    have kp2 : (∀ k f : Nat, Nat.testBit 508 (gpX k f) = true → xi1 k f = mu k f) := kp_t hkp1_0 (by decide) (fun _ _ _ => rfl)
    skip
    refine lv_istore (lv' := [(4, .int r1), (0, .ref (ad 0)), (1, .int vt), (2, .int vi), (3, .int vv)]) hx hb dX11_put_5 hl (by decide) rfl (fun ls hl => ?_)
    refine lv_iload hx hb dX11_put_7 (lv_at hl 0 rfl) ?_
    refine lv_if_eq (tgt := 15) hx hb dX11_put_9 (by decide) (fun c_22 => by have c_22 : r1.toInt = 0 := il_eq c_22; exfalso; omega) (fun c_22 => ?_)
    have c_22 : ¬ r1.toInt = 0 := il_ne c_22
    refine lv_iload hx hb dX11_put_12 (lv_at hl 0 rfl) ?_
    exact W.iret (v := r1) hx hb hr (fun t ht hW => ⟨⟨r1, xi1, rfl, ⟨hF.trans hfz.symm, ok, trivial, kp2⟩, by first | (subst ht; exact hP) | (rw [ht]; exact hP) | (show va_P (dC, dI) vwCl (wR 157 ad (EX cs ad) xi1) t.heap; rw [ht]; exact hP)⟩, hS.F ht⟩) hS.2.2 dX11_put_14
set_option maxHeartbeats 4000000 in
set_option maxRecDepth 100000 in
/-- qx_purse -/
theorem qx_purse (l : Launch) (dC : Nat → ClassId) (dI : Nat → Nat → Nat) (cs : Nat → ClassId) (ad : Nat → Nat) (mu : Nat → Nat → Int32) (ok : okR loX hiX mu) (H : Heap) (hP : va_P (dC, dI) vwCl (wR 157 ad (EX cs ad) mu) H) (hD0 : va_D (fun _ => True) (wR 157 ad (EX cs ad) mu)) (vx : Int32) (vv : Int32) : Met l yX11_purse (wU yX11_purse cX11_purse 4 (some .int)) ({ frames := 1, cells := 0, slots := 0, locals := 21 }) (va_Pc [.ref (ad 0), .int vx, .int vv] (sz_P (dC, dI) vwCl (tyW cs) H)) (va_Qi (fun (z : Int32) (xi : Nat → Nat → Int32) => (z, xi) = F_qx_purse mu vx vv ∧ okR loX hiX xi ∧ (True) ∧ (∀ k f : Nat, Nat.testBit 502 (gpX k f) = true → xi k f = mu k f)) (fun xi t => va_P (dC, dI) vwCl (wR 157 ad (EX cs ad) xi) t.heap) (va_A (wR 157 ad (EX cs ad) mu) H.size)) 0 0 (va_A (wR 157 ad (EX cs ad) mu) H.size) := by
  refine Met.ofW (cc := cX11_purse) (maxL := 4) (ret := (some .int)) (by decide) rfl ?_
  intro p e s m args below meth c s₁ B hml hv
  obtain ⟨rfl, hh, hK, hz⟩ := hv
  have hx := B.exec
  have hb := B.bytes
  have hr := B.returns
  have hts := atoms_spec (ws := (wU yX11_purse cX11_purse 4 (some .int))) B.pre
  have hown : s.vm.findClass RX11 = some m.cls := findClass_of_methodNamed B.named
  have hlocks := B.notSynchronized
  subst hh
  have hD := hD0.self (sz := s.heap.size)
  have hA : ∀ q : Nat, s.heap.size ≤ q → (va_A (wR 157 ad (EX cs ad) mu) s.heap.size) q := fun q h => Or.inr h
  have hS : va_S (va_A (wR 157 ad (EX cs ad) mu) s.heap.size) s.heap s.heap [] := va_S.rf
  have hl := lv_entry ([.ref (ad 0), .int vx, .int vv]) (n := 4) (Nat.le_of_ble_eq_true rfl)
  rw [lg_entry_eq]
  generalize (lg_sl ([.ref (ad 0), .int vx, .int vv]) ++ List.replicate (4 - (lg_sl ([.ref (ad 0), .int vx, .int vv])).length) Slot.unset).toArray = ls at hl ⊢
  have hl : lv_has ls 4 [(0, .ref (ad 0)), (1, .int vx), (2, .int vv)] := hl
  obtain ⟨fz, hfz⟩ : ∃ z, F_qx_purse mu vx vv = z := ⟨_, rfl⟩
  have hF := hfz
  unfold F_qx_purse at hF
  refine lv_aload_n hx hb dX11_purse_0 rfl (lv_at hl 0 rfl) ?_
  refine va_get (D := (dC, dI)) (ci := 11) (v := .ref (ad 4)) (C := RX11) (T := TX11) (N := 11) hx hb hts inG11 hown hK hP 0 (gX_0 cs ad mu) rfl 3 (by decide) (hts _ (List.mem_cons_of_mem _ mw_2_161)) (fun _ h9 => h9) rfl dX11_purse_1 ?_
  refine lv_iload_n hx hb dX11_purse_4 rfl (lv_at hl 1 rfl) ?_
  refine cr_i (va_runV (As := [.int vx]) (rest := []) ⟨hx, hb, hml, hown, hts⟩ (sx_has l dC dI cs ad mu ok s.heap hP vx) (cwV 1 hts (wU_V mw_3_76 mw_3_73 mw_3_74 mw_3_75 mw_1_2) rfl rfl rfl (by decide +kernel) ⟨Nat.le_of_ble_eq_true rfl, Nat.le_of_ble_eq_true rfl⟩) ⟨sz_c, va_recv hK hP (ci := 10) (q0 := 4) rfl (gX_4 cs ad mu), sz_m hK hz⟩ rfl rfl hl.1 rfl (lv_room (Nat.le_of_ble_eq_true rfl)) dX11_purse_5 ⟨Nat.zero_le _, Nat.zero_le _⟩) hS (fun r1 hw1 locs hS => ?_)
  obtain ⟨hfe1, hw1⟩ := hw1
  rcases hw1 with ⟨rfl, f1⟩ | ⟨rfl, f1⟩
  · have hF := (if_pos hfe1.symm).symm.trans hF
    have f1 : 0 ≤ vx.toInt ∧ vx.toInt < (mu 4 6).toInt ∧ (mu 4 6).toInt ≤ 7 := f1
    refine lv_if_eq (tgt := 22) hx hb dX11_purse_8 (by decide) (fun c => absurd c (by decide)) (fun _ => ?_)
    refine lv_iload_n hx hb dX11_purse_11 rfl (lv_at hl 2 rfl) ?_
    refine lv_if_lt (tgt := 22) hx hb dX11_purse_12 (by decide) (fun c_2 => ?_) (fun c_2 => ?_)
    · have hF := (if_pos c_2).symm.trans hF
      have c_2 : vv.toInt < 0 := il_lt c_2
      refine lv_iconst (v := (-1)) hx hb dX11_purse_22 (by decide) ?_
      exact W.iret (v := (-1)) hx hb hr (fun t ht hW => ⟨⟨(-1), mu, rfl, ⟨hF.trans hfz.symm, ok, trivial, (fun _ _ _ => rfl)⟩, by first | (subst ht; exact hP) | (rw [ht]; exact hP) | (show va_P (dC, dI) vwCl (wR 157 ad (EX cs ad) mu) t.heap; rw [ht]; exact hP)⟩, hS.F ht⟩) hS.2.2 dX11_purse_23
    · have hF := (if_neg c_2).symm.trans hF
      have c_2 : 0 ≤ vv.toInt := il_nlt c_2
      refine lv_iload_n hx hb dX11_purse_15 rfl (lv_at hl 2 rfl) ?_
      refine lv_sipush (v := 999) hx hb dX11_purse_16 (by decide) ?_
      refine lv_icmp_le (tgt := 24) hx hb dX11_purse_19 (by decide) (fun c_3 => ?_) (fun c_3 => ?_)
      · have hF := (if_pos c_3).symm.trans hF
        have c_3 : vv.toInt ≤ 999 := il_le c_3
        refine lv_aload_n hx hb dX11_purse_24 rfl (lv_at hl 0 rfl) ?_
        refine va_get (D := (dC, dI)) (ci := 11) (v := .ref (ad 4)) (C := RX11) (T := TX11) (N := 11) hx hb hts inG11 hown hK hP 0 (gX_0 cs ad mu) rfl 3 (by decide) (hts _ (List.mem_cons_of_mem _ mw_2_161)) (fun _ h9 => h9) rfl dX11_purse_25 ?_
        refine va_get (D := (dC, dI)) (ci := 10) (v := .ref (ad 5)) (C := RX10) (T := TX10) (N := 8) hx hb hts inG10 hown hK hP 4 (gX_4 cs ad mu) rfl 3 (by decide) (hts _ (List.mem_cons_of_mem _ mw_1_157)) (fun _ h9 => h9) rfl dX11_purse_28 ?_
        refine va_get (D := (dC, dI)) (ci := 8) (v := .ref (ad 46)) (C := RX8) (T := TX8) (N := 6) hx hb hts inG8 hown hK hP 5 (gX_5 cs ad mu) rfl 0 (by decide) (hts _ (List.mem_cons_of_mem _ mw_1_108)) (fun _ h9 => h9) rfl dX11_purse_31 ?_
        refine lv_iload_n hx hb dX11_purse_34 rfl (lv_at hl 1 rfl) ?_
        refine va_iald hx hb hK hP 46 0 (gX_46 cs ad mu) rfl (show vp_in vx 7 from vi_of (by omega) (by omega)) dX11_purse_35 ?_
        refine lv_topi (fun y4 ey4 => ?_)
        have hF := mi_let hF ey4
        have by4 : y4.toInt = (mu 46 vx.toNatClampNeg).toInt := congrArg Int32.toInt ey4
        refine lv_istore_n (lv' := [(3, .int y4), (0, .ref (ad 0)), (1, .int vx), (2, .int vv)]) hx hb dX11_purse_36 rfl hl (by decide) rfl (fun ls hl => ?_)
        refine lv_aload_n hx hb dX11_purse_37 rfl (lv_at hl 1 rfl) ?_
        refine va_get (D := (dC, dI)) (ci := 11) (v := .ref (ad 4)) (C := RX11) (T := TX11) (N := 11) hx hb hts inG11 hown hK hP 0 (gX_0 cs ad mu) rfl 3 (by decide) (hts _ (List.mem_cons_of_mem _ mw_2_161)) (fun _ h9 => h9) rfl dX11_purse_38 ?_
        refine va_get (D := (dC, dI)) (ci := 10) (v := .ref (ad 5)) (C := RX10) (T := TX10) (N := 8) hx hb hts inG10 hown hK hP 4 (gX_4 cs ad mu) rfl 3 (by decide) (hts _ (List.mem_cons_of_mem _ mw_1_157)) (fun _ h9 => h9) rfl dX11_purse_41 ?_
        refine va_get (D := (dC, dI)) (ci := 8) (v := .ref (ad 46)) (C := RX8) (T := TX8) (N := 6) hx hb hts inG8 hown hK hP 5 (gX_5 cs ad mu) rfl 0 (by decide) (hts _ (List.mem_cons_of_mem _ mw_1_108)) (fun _ h9 => h9) rfl dX11_purse_44 ?_
        refine lv_iload_n hx hb dX11_purse_47 rfl (lv_at hl 2 rfl) ?_
        refine lv_iload_n hx hb dX11_purse_48 rfl (lv_at hl 3 rfl) ?_
        refine va_iast hx hb hK hP (wR_D mu hD) hS 46 0 (gX_46 cs ad mu) rfl (show vp_in vx 7 from vi_of (by omega) (by omega)) dX11_purse_49 (fun H locs hP _ hS => ?_)
        refine wr_gen (upd (mu 46) vx.toNatClampNeg vv) hP (rfl) (fun nu5 hn5 hP => ?_)
        have hF := mi_let hF hn5.symm
        have ok := tX_46_s ok vx.toNatClampNeg hn5
        have kp6 : (∀ k f : Nat, Nat.testBit 502 (gpX k f) = true → nu5 k f = mu k f) := kp_c 3 hn5 (fun _ => rfl) (by decide) (fun _ _ _ => rfl)
        refine lv_iload_n hx hb dX11_purse_50 rfl (lv_at hl 0 rfl) ?_
        exact W.iret (v := y4) hx hb hr (fun t ht hW => ⟨⟨y4, nu5, rfl, ⟨hF.trans hfz.symm, ok, trivial, kp6⟩, by first | (subst ht; exact hP) | (rw [ht]; exact hP) | (show va_P (dC, dI) vwCl (wR 157 ad (EX cs ad) nu5) t.heap; rw [ht]; exact hP)⟩, hS.F ht⟩) hS.2.2 dX11_purse_51
      · have hF := (if_neg c_3).symm.trans hF
        have c_3 : 999 < vv.toInt := il_nle c_3
        refine lv_iconst (v := (-1)) hx hb dX11_purse_22 (by decide) ?_
        exact W.iret (v := (-1)) hx hb hr (fun t ht hW => ⟨⟨(-1), mu, rfl, ⟨hF.trans hfz.symm, ok, trivial, (fun _ _ _ => rfl)⟩, by first | (subst ht; exact hP) | (rw [ht]; exact hP) | (show va_P (dC, dI) vwCl (wR 157 ad (EX cs ad) mu) t.heap; rw [ht]; exact hP)⟩, hS.F ht⟩) hS.2.2 dX11_purse_23
  · have hF := (if_neg (fun h => absurd (hfe1.trans h) (by decide))).symm.trans hF
    have f1 : vx.toInt < 0 ∨ (mu 4 6).toInt ≤ vx.toInt := f1
    refine lv_if_eq (tgt := 22) hx hb dX11_purse_8 (by decide) (fun _ => ?_) (fun c => absurd (by decide) c)
    refine lv_iconst (v := (-1)) hx hb dX11_purse_22 (by decide) ?_
    exact W.iret (v := (-1)) hx hb hr (fun t ht hW => ⟨⟨(-1), mu, rfl, ⟨hF.trans hfz.symm, ok, trivial, (fun _ _ _ => rfl)⟩, by first | (subst ht; exact hP) | (rw [ht]; exact hP) | (show va_P (dC, dI) vwCl (wR 157 ad (EX cs ad) mu) t.heap; rw [ht]; exact hP)⟩, hS.F ht⟩) hS.2.2 dX11_purse_23
set_option maxHeartbeats 4000000 in
set_option maxRecDepth 100000 in
/-- qx_days -/
theorem qx_days (l : Launch) (dC : Nat → ClassId) (dI : Nat → Nat → Nat) (cs : Nat → ClassId) (ad : Nat → Nat) (mu : Nat → Nat → Int32) (ok : okR loX hiX mu) (H : Heap) (hP : va_P (dC, dI) vwCl (wR 157 ad (EX cs ad) mu) H) (hD0 : va_D (fun _ => True) (wR 157 ad (EX cs ad) mu)) (vn : Int32) : Met l yX11_days (wU yX11_days cX11_days 2 (some .int)) ({ frames := 0, cells := 0, slots := 0, locals := 0 }) (va_Pc [.ref (ad 0), .int vn] (sz_P (dC, dI) vwCl (tyW cs) H)) (va_Qi (fun (z : Int32) (xi : Nat → Nat → Int32) => (z, xi) = F_qx_days mu vn ∧ okR loX hiX xi ∧ (True) ∧ (∀ k f : Nat, Nat.testBit 382 (gpX k f) = true → xi k f = mu k f)) (fun xi t => va_P (dC, dI) vwCl (wR 157 ad (EX cs ad) xi) t.heap) (va_A (wR 157 ad (EX cs ad) mu) H.size)) 0 0 (va_A (wR 157 ad (EX cs ad) mu) H.size) := by
  refine Met.ofW (cc := cX11_days) (maxL := 2) (ret := (some .int)) (by decide) rfl ?_
  intro p e s m args below meth c s₁ B hml hv
  obtain ⟨rfl, hh, hK, hz⟩ := hv
  have hx := B.exec
  have hb := B.bytes
  have hr := B.returns
  have hts := atoms_spec (ws := (wU yX11_days cX11_days 2 (some .int))) B.pre
  have hown : s.vm.findClass RX11 = some m.cls := findClass_of_methodNamed B.named
  have hlocks := B.notSynchronized
  subst hh
  have hD := hD0.self (sz := s.heap.size)
  have hA : ∀ q : Nat, s.heap.size ≤ q → (va_A (wR 157 ad (EX cs ad) mu) s.heap.size) q := fun q h => Or.inr h
  have hS : va_S (va_A (wR 157 ad (EX cs ad) mu) s.heap.size) s.heap s.heap [] := va_S.rf
  have hl := lv_entry ([.ref (ad 0), .int vn]) (n := 2) (Nat.le_of_ble_eq_true rfl)
  rw [lg_entry_eq]
  generalize (lg_sl ([.ref (ad 0), .int vn]) ++ List.replicate (2 - (lg_sl ([.ref (ad 0), .int vn])).length) Slot.unset).toArray = ls at hl ⊢
  have hl : lv_has ls 2 [(0, .ref (ad 0)), (1, .int vn)] := hl
  obtain ⟨fz, hfz⟩ : ∃ z, F_qx_days mu vn = z := ⟨_, rfl⟩
  have hF := hfz
  unfold F_qx_days at hF
  refine lv_iload_n hx hb dX11_days_0 rfl (lv_at hl 1 rfl) ?_
  refine lv_if_lt (tgt := 10) hx hb dX11_days_1 (by decide) (fun c_1 => ?_) (fun c_1 => ?_)
  · have hF := (if_pos c_1).symm.trans hF
    have c_1 : vn.toInt < 0 := il_lt c_1
    refine lv_iconst (v := (-1)) hx hb dX11_days_10 (by decide) ?_
    exact W.iret (v := (-1)) hx hb hr (fun t ht hW => ⟨⟨(-1), mu, rfl, ⟨hF.trans hfz.symm, ok, trivial, (fun _ _ _ => rfl)⟩, by first | (subst ht; exact hP) | (rw [ht]; exact hP) | (show va_P (dC, dI) vwCl (wR 157 ad (EX cs ad) mu) t.heap; rw [ht]; exact hP)⟩, hS.F ht⟩) hS.2.2 dX11_days_11
  · have hF := (if_neg c_1).symm.trans hF
    have c_1 : 0 ≤ vn.toInt := il_nlt c_1
    refine lv_iload_n hx hb dX11_days_4 rfl (lv_at hl 1 rfl) ?_
    refine lv_bipush (v := 20) hx hb dX11_days_5 (by decide) ?_
    refine lv_icmp_le (tgt := 12) hx hb dX11_days_7 (by decide) (fun c_2 => ?_) (fun c_2 => ?_)
    · have hF := (if_pos c_2).symm.trans hF
      have c_2 : vn.toInt ≤ 20 := il_le c_2
      refine lv_aload_n hx hb dX11_days_12 rfl (lv_at hl 0 rfl) ?_
      refine va_get (D := (dC, dI)) (ci := 11) (v := .ref (ad 4)) (C := RX11) (T := TX11) (N := 11) hx hb hts inG11 hown hK hP 0 (gX_0 cs ad mu) rfl 3 (by decide) (hts _ (List.mem_cons_of_mem _ mw_2_161)) (fun _ h9 => h9) rfl dX11_days_13 ?_
      refine va_get (D := (dC, dI)) (ci := 10) (v := .ref (ad 5)) (C := RX10) (T := TX10) (N := 8) hx hb hts inG10 hown hK hP 4 (gX_4 cs ad mu) rfl 3 (by decide) (hts _ (List.mem_cons_of_mem _ mw_1_157)) (fun _ h9 => h9) rfl dX11_days_16 ?_
      refine va_get (D := (dC, dI)) (ci := 8) (v := .int (mu 5 3)) (C := RX8) (T := TX8) (N := 6) hx hb hts inG8 hown hK hP 5 (gX_5 cs ad mu) rfl 3 (by decide) (hts _ (List.mem_cons_of_mem _ mw_1_124)) (fun _ h9 => h9) rfl dX11_days_19 ?_
      refine lv_topi (fun y3 ey3 => ?_)
      have hF := mi_let hF ey3
      have by3 : y3.toInt = (mu 5 3).toInt := congrArg Int32.toInt ey3
      refine lv_iload_n hx hb dX11_days_22 rfl (lv_at hl 1 rfl) ?_
      refine lv_iadd hx hb dX11_days_23 ?_
      refine lv_topi (fun t4 et4 => ?_)
      have hF := mi_let hF et4
      refine lv_bipush (v := 99) hx hb dX11_days_24 (by decide) ?_
      refine lv_icmp_le (tgt := 32) hx hb dX11_days_26 (by decide) (fun c_5 => ?_) (fun c_5 => ?_)
      · have hF := (if_pos c_5).symm.trans hF
        have c_5 : t4.toInt ≤ 99 := il_le c_5
        refine lv_aload_n hx hb dX11_days_32 rfl (lv_at hl 0 rfl) ?_
        refine va_get (D := (dC, dI)) (ci := 11) (v := .ref (ad 4)) (C := RX11) (T := TX11) (N := 11) hx hb hts inG11 hown hK hP 0 (gX_0 cs ad mu) rfl 3 (by decide) (hts _ (List.mem_cons_of_mem _ mw_2_161)) (fun _ h9 => h9) rfl dX11_days_33 ?_
        refine va_get (D := (dC, dI)) (ci := 10) (v := .ref (ad 5)) (C := RX10) (T := TX10) (N := 8) hx hb hts inG10 hown hK hP 4 (gX_4 cs ad mu) rfl 3 (by decide) (hts _ (List.mem_cons_of_mem _ mw_1_157)) (fun _ h9 => h9) rfl dX11_days_36 ?_
        refine lv_dup hx hb dX11_days_39 rfl ?_
        refine va_get (D := (dC, dI)) (ci := 8) (v := .int (mu 5 3)) (C := RX8) (T := TX8) (N := 6) hx hb hts inG8 hown hK hP 5 (gX_5 cs ad mu) rfl 3 (by decide) (hts _ (List.mem_cons_of_mem _ mw_1_124)) (fun _ h9 => h9) rfl dX11_days_40 ?_
        refine lq_i y3 ey3.symm ?_
        refine lv_iload_n hx hb dX11_days_43 rfl (lv_at hl 1 rfl) ?_
        refine lv_iadd hx hb dX11_days_44 ?_
        refine lv_topi (fun t6 et6 => ?_)
        have hF := mi_let hF et6
        refine va_put (D := (dC, dI)) (ci := 8) (v := .int t6) (ty := .int) (C := RX8) (T := TX8) (N := 6) hx hb hts inG8 tyX8 tyX8_ok nmX8 hown hK hP (wR_D mu hD) hS 5 (gX_5 cs ad mu) rfl 3 (by decide) (hts _ (List.mem_cons_of_mem _ mw_1_124)) (fun _ h9 => h9) rfl (by decide +kernel) rfl rfl (Nat.le_of_ble_eq_true rfl) dX11_days_45 (fun H locs hP _ hS => ?_)
        simp only [List.set_cons_succ, List.set_cons_zero] at hP
        refine wr_gen (upd (mu 5) 3 t6) hP ((hX_5_3 cs ad _ _)) (fun nu7 hn7 hP => ?_)
        have hF := mi_let hF hn7.symm
        have ok := tX_5_3 ok hn7
        have kp8 : (∀ k f : Nat, Nat.testBit 382 (gpX k f) = true → nu7 k f = mu k f) := kp_f hn7 (by decide) (fun _ _ _ => rfl)
        have ez9 : t6 = nu7 5 3 := up_v hn7
        refine lv_aload_n hx hb dX11_days_48 rfl (lv_at hl 0 rfl) ?_
        refine va_get (D := (dC, dI)) (ci := 11) (v := .ref (ad 4)) (C := RX11) (T := TX11) (N := 11) hx hb hts inG11 hown hK hP 0 (gX_0 cs ad nu7) rfl 3 (by decide) (hts _ (List.mem_cons_of_mem _ mw_2_161)) (fun _ h9 => h9) rfl dX11_days_49 ?_
        refine va_get (D := (dC, dI)) (ci := 10) (v := .ref (ad 5)) (C := RX10) (T := TX10) (N := 8) hx hb hts inG10 hown hK hP 4 (gX_4 cs ad nu7) rfl 3 (by decide) (hts _ (List.mem_cons_of_mem _ mw_1_157)) (fun _ h9 => h9) rfl dX11_days_52 ?_
        refine va_get (D := (dC, dI)) (ci := 8) (v := .int (nu7 5 3)) (C := RX8) (T := TX8) (N := 6) hx hb hts inG8 hown hK hP 5 (gX_5 cs ad nu7) rfl 3 (by decide) (hts _ (List.mem_cons_of_mem _ mw_1_124)) (fun _ h9 => h9) rfl dX11_days_55 ?_
        refine lq_i t6 ez9.symm ?_
        exact W.iret (v := t6) hx hb hr (fun t ht hW => ⟨⟨t6, nu7, rfl, ⟨hF.trans hfz.symm, ok, trivial, kp8⟩, by first | (subst ht; exact hP) | (rw [ht]; exact hP) | (show va_P (dC, dI) vwCl (wR 157 ad (EX cs ad) nu7) t.heap; rw [ht]; exact hP)⟩, hS.F ht⟩) hS.2.2 dX11_days_58
      · have hF := (if_neg c_5).symm.trans hF
        have c_5 : 99 < t4.toInt := il_nle c_5
        refine lv_bipush (v := (-2)) hx hb dX11_days_29 (by decide) ?_
        exact W.iret (v := (-2)) hx hb hr (fun t ht hW => ⟨⟨(-2), mu, rfl, ⟨hF.trans hfz.symm, ok, trivial, (fun _ _ _ => rfl)⟩, by first | (subst ht; exact hP) | (rw [ht]; exact hP) | (show va_P (dC, dI) vwCl (wR 157 ad (EX cs ad) mu) t.heap; rw [ht]; exact hP)⟩, hS.F ht⟩) hS.2.2 dX11_days_31
    · have hF := (if_neg c_2).symm.trans hF
      have c_2 : 20 < vn.toInt := il_nle c_2
      refine lv_iconst (v := (-1)) hx hb dX11_days_10 (by decide) ?_
      exact W.iret (v := (-1)) hx hb hr (fun t ht hW => ⟨⟨(-1), mu, rfl, ⟨hF.trans hfz.symm, ok, trivial, (fun _ _ _ => rfl)⟩, by first | (subst ht; exact hP) | (rw [ht]; exact hP) | (show va_P (dC, dI) vwCl (wR 157 ad (EX cs ad) mu) t.heap; rw [ht]; exact hP)⟩, hS.F ht⟩) hS.2.2 dX11_days_11
set_option maxHeartbeats 4000000 in
set_option maxRecDepth 100000 in
/-- qx_beside -/
theorem qx_beside (l : Launch) (dC : Nat → ClassId) (dI : Nat → Nat → Nat) (cs : Nat → ClassId) (ad : Nat → Nat) (mu : Nat → Nat → Int32) (ok : okR loX hiX mu) (H : Heap) (hP : va_P (dC, dI) vwCl (wR 157 ad (EX cs ad) mu) H) (hD0 : va_D (fun _ => True) (wR 157 ad (EX cs ad) mu)) (vx : Int32) : Met l yX11_beside (wU yX11_beside cX11_beside 2 (some .int)) ({ frames := 2, cells := 0, slots := 0, locals := 45 }) (va_Pc [.ref (ad 0), .int vx] (sz_P (dC, dI) vwCl (tyW cs) H)) (va_Qi (fun (z : Int32) (xi : Nat → Nat → Int32) => (z, xi) = F_qx_beside mu vx ∧ okR loX hiX xi ∧ (True) ∧ (∀ k f : Nat, Nat.testBit 510 (gpX k f) = true → xi k f = mu k f)) (fun xi t => va_P (dC, dI) vwCl (wR 157 ad (EX cs ad) xi) t.heap) (va_A (wR 157 ad (EX cs ad) mu) H.size)) 0 0 (va_A (wR 157 ad (EX cs ad) mu) H.size) := by
  refine Met.ofW (cc := cX11_beside) (maxL := 2) (ret := (some .int)) (by decide) rfl ?_
  intro p e s m args below meth c s₁ B hml hv
  obtain ⟨rfl, hh, hK, hz⟩ := hv
  have hx := B.exec
  have hb := B.bytes
  have hr := B.returns
  have hts := atoms_spec (ws := (wU yX11_beside cX11_beside 2 (some .int))) B.pre
  have hown : s.vm.findClass RX11 = some m.cls := findClass_of_methodNamed B.named
  have hlocks := B.notSynchronized
  subst hh
  have hD := hD0.self (sz := s.heap.size)
  have hA : ∀ q : Nat, s.heap.size ≤ q → (va_A (wR 157 ad (EX cs ad) mu) s.heap.size) q := fun q h => Or.inr h
  have hS : va_S (va_A (wR 157 ad (EX cs ad) mu) s.heap.size) s.heap s.heap [] := va_S.rf
  have hl := lv_entry ([.ref (ad 0), .int vx]) (n := 2) (Nat.le_of_ble_eq_true rfl)
  rw [lg_entry_eq]
  generalize (lg_sl ([.ref (ad 0), .int vx]) ++ List.replicate (2 - (lg_sl ([.ref (ad 0), .int vx])).length) Slot.unset).toArray = ls at hl ⊢
  have hl : lv_has ls 2 [(0, .ref (ad 0)), (1, .int vx)] := hl
  obtain ⟨fz, hfz⟩ : ∃ z, F_qx_beside mu vx = z := ⟨_, rfl⟩
  have hF := hfz
  unfold F_qx_beside at hF
  refine lv_aload_n hx hb dX11_beside_0 rfl (lv_at hl 0 rfl) ?_
  refine va_get (D := (dC, dI)) (ci := 11) (v := .ref (ad 4)) (C := RX11) (T := TX11) (N := 11) hx hb hts inG11 hown hK hP 0 (gX_0 cs ad mu) rfl 3 (by decide) (hts _ (List.mem_cons_of_mem _ mw_2_161)) (fun _ h9 => h9) rfl dX11_beside_1 ?_
  refine lv_iload_n hx hb dX11_beside_4 rfl (lv_at hl 1 rfl) ?_
  refine cr_i (va_runV (As := [.int vx]) (rest := []) ⟨hx, hb, hml, hown, hts⟩ (sx_has l dC dI cs ad mu ok s.heap hP vx) (cwV 1 hts (wU_V mw_3_76 mw_3_73 mw_3_74 mw_3_75 mw_1_2) rfl rfl rfl (by decide +kernel) ⟨Nat.le_of_ble_eq_true rfl, Nat.le_of_ble_eq_true rfl⟩) ⟨sz_c, va_recv hK hP (ci := 10) (q0 := 4) rfl (gX_4 cs ad mu), sz_m hK hz⟩ rfl rfl hl.1 rfl (lv_room (Nat.le_of_ble_eq_true rfl)) dX11_beside_5 ⟨Nat.zero_le _, Nat.zero_le _⟩) hS (fun r1 hw1 locs hS => ?_)
  obtain ⟨hfe1, hw1⟩ := hw1
  rcases hw1 with ⟨rfl, f1⟩ | ⟨rfl, f1⟩
  · have hF := (if_pos hfe1.symm).symm.trans hF
    have f1 : 0 ≤ vx.toInt ∧ vx.toInt < (mu 4 6).toInt ∧ (mu 4 6).toInt ≤ 7 := f1
    refine lv_if_ne (tgt := 13) hx hb dX11_beside_8 (by decide) (fun _ => ?_) (fun c => absurd c (by decide))
    refine lv_aload_n hx hb dX11_beside_13 rfl (lv_at hl 0 rfl) ?_
    refine va_get (D := (dC, dI)) (ci := 11) (v := .ref (ad 4)) (C := RX11) (T := TX11) (N := 11) hx hb hts inG11 hown hK hP 0 (gX_0 cs ad mu) rfl 3 (by decide) (hts _ (List.mem_cons_of_mem _ mw_2_161)) (fun _ h9 => h9) rfl dX11_beside_14 ?_
    refine lv_iload_n hx hb dX11_beside_17 rfl (lv_at hl 1 rfl) ?_
    refine lv_aload_n hx hb dX11_beside_18 rfl (lv_at hl 0 rfl) ?_
    refine va_get (D := (dC, dI)) (ci := 11) (v := .ref (ad 4)) (C := RX11) (T := TX11) (N := 11) hx hb hts inG11 hown hK hP 0 (gX_0 cs ad mu) rfl 3 (by decide) (hts _ (List.mem_cons_of_mem _ mw_2_161)) (fun _ h9 => h9) rfl dX11_beside_19 ?_
    refine va_get (D := (dC, dI)) (ci := 10) (v := .ref (ad 5)) (C := RX10) (T := TX10) (N := 8) hx hb hts inG10 hown hK hP 4 (gX_4 cs ad mu) rfl 3 (by decide) (hts _ (List.mem_cons_of_mem _ mw_1_157)) (fun _ h9 => h9) rfl dX11_beside_22 ?_
    refine va_get (D := (dC, dI)) (ci := 8) (v := .int (mu 5 2)) (C := RX8) (T := TX8) (N := 6) hx hb hts inG8 hown hK hP 5 (gX_5 cs ad mu) rfl 2 (by decide) (hts _ (List.mem_cons_of_mem _ mw_1_118)) (fun _ h9 => h9) rfl dX11_beside_25 ?_
    refine lv_topi (fun y2 ey2 => ?_)
    have hF := mi_let hF ey2
    have by2 : y2.toInt = (mu 5 2).toInt := congrArg Int32.toInt ey2
    refine cr_i (va_runV (As := [.int vx, .int y2]) (rest := []) ⟨hx, hb, hml, hown, hts⟩ (sx_near l dC dI cs ad mu ok s.heap hP vx y2) (cwV 2 hts (wU_V mw_3_84 mw_3_137 mw_3_82 mw_3_83 mw_1_2) rfl rfl rfl (by decide +kernel) ⟨Nat.le_of_ble_eq_true rfl, Nat.le_of_ble_eq_true rfl⟩) ⟨sz_c, va_recv hK hP (ci := 10) (q0 := 4) rfl (gX_4 cs ad mu), sz_m hK hz⟩ rfl rfl hl.1 rfl (lv_room (Nat.le_of_ble_eq_true rfl)) dX11_beside_28 ⟨Nat.zero_le _, Nat.zero_le _⟩) hS (fun r3 hw3 locs hS => ?_)
    obtain ⟨hfe3, hw3⟩ := hw3
    have hF := mi_let hF hfe3
    exact W.iret (v := r3) hx hb hr (fun t ht hW => ⟨⟨r3, mu, rfl, ⟨hF.trans hfz.symm, ok, trivial, (fun _ _ _ => rfl)⟩, by first | (subst ht; exact hP) | (rw [ht]; exact hP) | (show va_P (dC, dI) vwCl (wR 157 ad (EX cs ad) mu) t.heap; rw [ht]; exact hP)⟩, hS.F ht⟩) hS.2.2 dX11_beside_31
  · have hF := (if_neg (fun h => absurd (hfe1.trans h) (by decide))).symm.trans hF
    have f1 : vx.toInt < 0 ∨ (mu 4 6).toInt ≤ vx.toInt := f1
    refine lv_if_ne (tgt := 13) hx hb dX11_beside_8 (by decide) (fun c => absurd (by decide) c) (fun _ => ?_)
    refine lv_iconst (v := (-1)) hx hb dX11_beside_11 (by decide) ?_
    exact W.iret (v := (-1)) hx hb hr (fun t ht hW => ⟨⟨(-1), mu, rfl, ⟨hF.trans hfz.symm, ok, trivial, (fun _ _ _ => rfl)⟩, by first | (subst ht; exact hP) | (rw [ht]; exact hP) | (show va_P (dC, dI) vwCl (wR 157 ad (EX cs ad) mu) t.heap; rw [ht]; exact hP)⟩, hS.F ht⟩) hS.2.2 dX11_beside_12
set_option maxHeartbeats 4000000 in
set_option maxRecDepth 100000 in
/-- qx_asks -/
theorem qx_asks (l : Launch) (dC : Nat → ClassId) (dI : Nat → Nat → Nat) (cs : Nat → ClassId) (ad : Nat → Nat) (mu : Nat → Nat → Int32) (ok : okR loX hiX mu) (H : Heap) (hP : va_P (dC, dI) vwCl (wR 157 ad (EX cs ad) mu) H) (hD0 : va_D (fun _ => True) (wR 157 ad (EX cs ad) mu)) (vx : Int32) (vp : Int32) : Met l yX11_asks (wU yX11_asks cX11_asks 3 (some .int)) ({ frames := 1, cells := 0, slots := 0, locals := 21 }) (va_Pc [.ref (ad 0), .int vx, .int vp] (sz_P (dC, dI) vwCl (tyW cs) H)) (va_Qi (fun (z : Int32) (xi : Nat → Nat → Int32) => (z, xi) = F_qx_asks mu vx vp ∧ okR loX hiX xi ∧ (True) ∧ (∀ k f : Nat, Nat.testBit 510 (gpX k f) = true → xi k f = mu k f)) (fun xi t => va_P (dC, dI) vwCl (wR 157 ad (EX cs ad) xi) t.heap) (va_A (wR 157 ad (EX cs ad) mu) H.size)) 0 0 (va_A (wR 157 ad (EX cs ad) mu) H.size) := by
  refine Met.ofW (cc := cX11_asks) (maxL := 3) (ret := (some .int)) (by decide) rfl ?_
  intro p e s m args below meth c s₁ B hml hv
  obtain ⟨rfl, hh, hK, hz⟩ := hv
  have hx := B.exec
  have hb := B.bytes
  have hr := B.returns
  have hts := atoms_spec (ws := (wU yX11_asks cX11_asks 3 (some .int))) B.pre
  have hown : s.vm.findClass RX11 = some m.cls := findClass_of_methodNamed B.named
  have hlocks := B.notSynchronized
  subst hh
  have hD := hD0.self (sz := s.heap.size)
  have hA : ∀ q : Nat, s.heap.size ≤ q → (va_A (wR 157 ad (EX cs ad) mu) s.heap.size) q := fun q h => Or.inr h
  have hS : va_S (va_A (wR 157 ad (EX cs ad) mu) s.heap.size) s.heap s.heap [] := va_S.rf
  have hl := lv_entry ([.ref (ad 0), .int vx, .int vp]) (n := 3) (Nat.le_of_ble_eq_true rfl)
  rw [lg_entry_eq]
  generalize (lg_sl ([.ref (ad 0), .int vx, .int vp]) ++ List.replicate (3 - (lg_sl ([.ref (ad 0), .int vx, .int vp])).length) Slot.unset).toArray = ls at hl ⊢
  have hl : lv_has ls 3 [(0, .ref (ad 0)), (1, .int vx), (2, .int vp)] := hl
  obtain ⟨fz, hfz⟩ : ∃ z, F_qx_asks mu vx vp = z := ⟨_, rfl⟩
  have hF := hfz
  unfold F_qx_asks at hF
  refine lv_aload_n hx hb dX11_asks_0 rfl (lv_at hl 0 rfl) ?_
  refine va_get (D := (dC, dI)) (ci := 11) (v := .ref (ad 4)) (C := RX11) (T := TX11) (N := 11) hx hb hts inG11 hown hK hP 0 (gX_0 cs ad mu) rfl 3 (by decide) (hts _ (List.mem_cons_of_mem _ mw_2_161)) (fun _ h9 => h9) rfl dX11_asks_1 ?_
  refine lv_iload_n hx hb dX11_asks_4 rfl (lv_at hl 1 rfl) ?_
  refine cr_i (va_runV (As := [.int vx]) (rest := []) ⟨hx, hb, hml, hown, hts⟩ (sx_has l dC dI cs ad mu ok s.heap hP vx) (cwV 1 hts (wU_V mw_3_76 mw_3_73 mw_3_74 mw_3_75 mw_1_2) rfl rfl rfl (by decide +kernel) ⟨Nat.le_of_ble_eq_true rfl, Nat.le_of_ble_eq_true rfl⟩) ⟨sz_c, va_recv hK hP (ci := 10) (q0 := 4) rfl (gX_4 cs ad mu), sz_m hK hz⟩ rfl rfl hl.1 rfl (lv_room (Nat.le_of_ble_eq_true rfl)) dX11_asks_5 ⟨Nat.zero_le _, Nat.zero_le _⟩) hS (fun r1 hw1 locs hS => ?_)
  obtain ⟨hfe1, hw1⟩ := hw1
  rcases hw1 with ⟨rfl, f1⟩ | ⟨rfl, f1⟩
  · have hF := (if_pos hfe1.symm).symm.trans hF
    have f1 : 0 ≤ vx.toInt ∧ vx.toInt < (mu 4 6).toInt ∧ (mu 4 6).toInt ≤ 7 := f1
    refine lv_if_eq (tgt := 22) hx hb dX11_asks_8 (by decide) (fun c => absurd c (by decide)) (fun _ => ?_)
    refine lv_iload_n hx hb dX11_asks_11 rfl (lv_at hl 2 rfl) ?_
    refine lv_if_lt (tgt := 22) hx hb dX11_asks_12 (by decide) (fun c_2 => ?_) (fun c_2 => ?_)
    · have hF := (if_pos c_2).symm.trans hF
      have c_2 : vp.toInt < 0 := il_lt c_2
      refine lv_iconst (v := (-1)) hx hb dX11_asks_22 (by decide) ?_
      exact W.iret (v := (-1)) hx hb hr (fun t ht hW => ⟨⟨(-1), mu, rfl, ⟨hF.trans hfz.symm, ok, trivial, (fun _ _ _ => rfl)⟩, by first | (subst ht; exact hP) | (rw [ht]; exact hP) | (show va_P (dC, dI) vwCl (wR 157 ad (EX cs ad) mu) t.heap; rw [ht]; exact hP)⟩, hS.F ht⟩) hS.2.2 dX11_asks_23
    · have hF := (if_neg c_2).symm.trans hF
      have c_2 : 0 ≤ vp.toInt := il_nlt c_2
      refine lv_iload_n hx hb dX11_asks_15 rfl (lv_at hl 2 rfl) ?_
      refine lv_sipush (v := 999) hx hb dX11_asks_16 (by decide) ?_
      refine lv_icmp_le (tgt := 24) hx hb dX11_asks_19 (by decide) (fun c_3 => ?_) (fun c_3 => ?_)
      · have hF := (if_pos c_3).symm.trans hF
        have c_3 : vp.toInt ≤ 999 := il_le c_3
        refine lv_aload_n hx hb dX11_asks_24 rfl (lv_at hl 0 rfl) ?_
        refine va_get (D := (dC, dI)) (ci := 11) (v := .ref (ad 4)) (C := RX11) (T := TX11) (N := 11) hx hb hts inG11 hown hK hP 0 (gX_0 cs ad mu) rfl 3 (by decide) (hts _ (List.mem_cons_of_mem _ mw_2_161)) (fun _ h9 => h9) rfl dX11_asks_25 ?_
        refine va_get (D := (dC, dI)) (ci := 10) (v := .ref (ad 34)) (C := RX10) (T := TX10) (N := 8) hx hb hts inG10 hown hK hP 4 (gX_4 cs ad mu) rfl 0 (by decide) (hts _ (List.mem_cons_of_mem _ mw_1_147)) (fun _ h9 => h9) rfl dX11_asks_28 ?_
        refine lv_iload_n hx hb dX11_asks_31 rfl (lv_at hl 1 rfl) ?_
        refine va_iald hx hb hK hP 34 0 (gX_34 cs ad mu) rfl (show vp_in vx 7 from vi_of (by omega) (by omega)) dX11_asks_32 ?_
        refine lv_topi (fun y4 ey4 => ?_)
        have hF := mi_let hF ey4
        have by4 : y4.toInt = (mu 34 vx.toNatClampNeg).toInt := congrArg Int32.toInt ey4
        refine lv_iload_n hx hb dX11_asks_33 rfl (lv_at hl 2 rfl) ?_
        refine cr_i (va_runS (As := [.int y4, .int vp]) (rest := []) ⟨hx, hb, hml, hown, hts⟩ (sx_priceAsked l dC dI (tyW cs) s.heap y4 vp) (va_cwS 2 hts (wU_S mw_3_107 mw_3_105 mw_3_106 mw_1_1) rfl rfl rfl (by decide +kernel) ⟨Nat.le_of_ble_eq_true rfl, Nat.le_of_ble_eq_true rfl⟩) ⟨sz_c, sz_m hK hz⟩ rfl rfl hl.1 rfl (lv_room (Nat.le_of_ble_eq_true rfl)) dX11_asks_34 ⟨Nat.zero_le _, Nat.zero_le _⟩) hS (fun r5 hw5 locs hS => ?_)
        obtain ⟨hfe5, hw5⟩ := hw5
        have hF := mi_let hF hfe5
        exact W.iret (v := r5) hx hb hr (fun t ht hW => ⟨⟨r5, mu, rfl, ⟨hF.trans hfz.symm, ok, trivial, (fun _ _ _ => rfl)⟩, by first | (subst ht; exact hP) | (rw [ht]; exact hP) | (show va_P (dC, dI) vwCl (wR 157 ad (EX cs ad) mu) t.heap; rw [ht]; exact hP)⟩, hS.F ht⟩) hS.2.2 dX11_asks_37
      · have hF := (if_neg c_3).symm.trans hF
        have c_3 : 999 < vp.toInt := il_nle c_3
        refine lv_iconst (v := (-1)) hx hb dX11_asks_22 (by decide) ?_
        exact W.iret (v := (-1)) hx hb hr (fun t ht hW => ⟨⟨(-1), mu, rfl, ⟨hF.trans hfz.symm, ok, trivial, (fun _ _ _ => rfl)⟩, by first | (subst ht; exact hP) | (rw [ht]; exact hP) | (show va_P (dC, dI) vwCl (wR 157 ad (EX cs ad) mu) t.heap; rw [ht]; exact hP)⟩, hS.F ht⟩) hS.2.2 dX11_asks_23
  · have hF := (if_neg (fun h => absurd (hfe1.trans h) (by decide))).symm.trans hF
    have f1 : vx.toInt < 0 ∨ (mu 4 6).toInt ≤ vx.toInt := f1
    refine lv_if_eq (tgt := 22) hx hb dX11_asks_8 (by decide) (fun _ => ?_) (fun c => absurd (by decide) c)
    refine lv_iconst (v := (-1)) hx hb dX11_asks_22 (by decide) ?_
    exact W.iret (v := (-1)) hx hb hr (fun t ht hW => ⟨⟨(-1), mu, rfl, ⟨hF.trans hfz.symm, ok, trivial, (fun _ _ _ => rfl)⟩, by first | (subst ht; exact hP) | (rw [ht]; exact hP) | (show va_P (dC, dI) vwCl (wR 157 ad (EX cs ad) mu) t.heap; rw [ht]; exact hP)⟩, hS.F ht⟩) hS.2.2 dX11_asks_23
set_option maxHeartbeats 4000000 in
set_option maxRecDepth 100000 in
/-- qx_where -/
theorem qx_where (l : Launch) (dC : Nat → ClassId) (dI : Nat → Nat → Nat) (cs : Nat → ClassId) (ad : Nat → Nat) (mu : Nat → Nat → Int32) (ok : okR loX hiX mu) (H : Heap) (hP : va_P (dC, dI) vwCl (wR 157 ad (EX cs ad) mu) H) (hD0 : va_D (fun _ => True) (wR 157 ad (EX cs ad) mu)) (vk : Int32) : Met l yX11_where (wU yX11_where cX11_where 3 (some .int)) ({ frames := 2, cells := 0, slots := 0, locals := 43 }) (va_Pc [.ref (ad 0), .int vk] (sz_P (dC, dI) vwCl (tyW cs) H)) (va_Qi (fun (z : Int32) (xi : Nat → Nat → Int32) => (z, xi) = F_qx_where mu vk ∧ okR loX hiX xi ∧ (True) ∧ (∀ k f : Nat, Nat.testBit 510 (gpX k f) = true → xi k f = mu k f)) (fun xi t => va_P (dC, dI) vwCl (wR 157 ad (EX cs ad) xi) t.heap) (va_A (wR 157 ad (EX cs ad) mu) H.size)) 0 0 (va_A (wR 157 ad (EX cs ad) mu) H.size) := by
  refine Met.ofW (cc := cX11_where) (maxL := 3) (ret := (some .int)) (by decide) rfl ?_
  intro p e s m args below meth c s₁ B hml hv
  obtain ⟨rfl, hh, hK, hz⟩ := hv
  have hx := B.exec
  have hb := B.bytes
  have hr := B.returns
  have hts := atoms_spec (ws := (wU yX11_where cX11_where 3 (some .int))) B.pre
  have hown : s.vm.findClass RX11 = some m.cls := findClass_of_methodNamed B.named
  have hlocks := B.notSynchronized
  subst hh
  have hD := hD0.self (sz := s.heap.size)
  have hA : ∀ q : Nat, s.heap.size ≤ q → (va_A (wR 157 ad (EX cs ad) mu) s.heap.size) q := fun q h => Or.inr h
  have hS : va_S (va_A (wR 157 ad (EX cs ad) mu) s.heap.size) s.heap s.heap [] := va_S.rf
  have hl := lv_entry ([.ref (ad 0), .int vk]) (n := 3) (Nat.le_of_ble_eq_true rfl)
  rw [lg_entry_eq]
  generalize (lg_sl ([.ref (ad 0), .int vk]) ++ List.replicate (3 - (lg_sl ([.ref (ad 0), .int vk])).length) Slot.unset).toArray = ls at hl ⊢
  have hl : lv_has ls 3 [(0, .ref (ad 0)), (1, .int vk)] := hl
  obtain ⟨fz, hfz⟩ : ∃ z, F_qx_where mu vk = z := ⟨_, rfl⟩
  have hF := hfz
  unfold F_qx_where at hF
  refine lv_aload_n hx hb dX11_where_0 rfl (lv_at hl 0 rfl) ?_
  refine lv_iload_n hx hb dX11_where_1 rfl (lv_at hl 1 rfl) ?_
  refine lv_iconst (v := 0) hx hb dX11_where_2 (by decide) ?_
  have hFc := fr_all (wR_D mu hD) hS hA
  refine va_calli (va_runV (As := [.int vk, .int 0]) (rest := []) ⟨hx, hb, hml, hown, hts⟩ (sx_refusedLetter l dC dI cs ad mu ok s.heap hP ((wR_D mu hD).weaken (fun _ _ _ _ => trivial)) vk 0) (cwV 2 hts (wU_V mw_3_157 mw_3_154 mw_3_156 mw_0_8 mw_1_1) rfl rfl rfl (by decide +kernel) ⟨Nat.le_of_ble_eq_true rfl, Nat.le_of_ble_eq_true rfl⟩) ⟨sz_c, va_recv hK hP (ci := 11) (q0 := 0) rfl (gX_0 cs ad mu), sz_m hK hz⟩ rfl rfl hl.1 rfl (lv_room (Nat.le_of_ble_eq_true rfl)) dX11_where_3 ⟨Nat.zero_le _, Nat.zero_le _⟩) hS (fun q _ h => hFc q h) hFc (fun r1 xi1 t H1 locs ht hvm hw1 hB hz1 hk1 hS => ?_)
  have hP : va_P (dC, dI) vwCl (wR 157 ad (EX cs ad) xi1) H1 := by rw [← ht]; exact hB
  obtain ⟨hfe1, hw1⟩ := hw1
  have hF := mi_letp hF hfe1
  rcases hw1 with ⟨rfl, hxi1, f1⟩ | ⟨z1, ok, hkp1_0⟩
  · have hF := (if_pos rfl).symm.trans hF
    have hP : va_P (dC, dI) vwCl (wR 157 ad (EX cs ad) mu) H1 := by rw [← hxi1]; exact hP
    have f1 : 0 ≤ vk.toInt ∧ vk.toInt < (mu 5 4).toInt ∧ (mu 5 4).toInt ≤ 4 ∧ (0 : Int) = 0 := f1
    refine lv_istore_n (lv' := [(2, .int 0), (0, .ref (ad 0)), (1, .int vk)]) hx hb dX11_where_6 rfl hl (by decide) rfl (fun ls hl => ?_)
    refine lv_iload_n hx hb dX11_where_7 rfl (lv_at hl 0 rfl) ?_
    refine lv_if_eq (tgt := 13) hx hb dX11_where_8 (by decide) (fun _ => ?_) (fun c => absurd (by decide) c)
    refine lv_aload_n hx hb dX11_where_13 rfl (lv_at hl 1 rfl) ?_
    refine lv_aload_n hx hb dX11_where_14 rfl (lv_at hl 1 rfl) ?_
    refine va_get (D := (dC, dI)) (ci := 11) (v := .ref (ad 4)) (C := RX11) (T := TX11) (N := 11) hx hb hts inG11 hown hK hP 0 (gX_0 cs ad mu) rfl 3 (by decide) (hts _ (List.mem_cons_of_mem _ mw_2_161)) (fun _ h9 => h9) rfl dX11_where_15 ?_
    refine va_get (D := (dC, dI)) (ci := 10) (v := .ref (ad 5)) (C := RX10) (T := TX10) (N := 8) hx hb hts inG10 hown hK hP 4 (gX_4 cs ad mu) rfl 3 (by decide) (hts _ (List.mem_cons_of_mem _ mw_1_157)) (fun _ h9 => h9) rfl dX11_where_18 ?_
    refine va_get (D := (dC, dI)) (ci := 8) (v := .ref (ad 47)) (C := RX8) (T := TX8) (N := 6) hx hb hts inG8 hown hK hP 5 (gX_5 cs ad mu) rfl 1 (by decide) (hts _ (List.mem_cons_of_mem _ mw_1_112)) (fun _ h9 => h9) rfl dX11_where_21 ?_
    refine lv_iload_n hx hb dX11_where_24 rfl (lv_at hl 2 rfl) ?_
    have hx3 : 0 ≤ vk.toInt ∧ vk.toInt < ((4 : Nat) : Int) := ⟨by omega, by omega⟩
    refine va_aldq hx hb hK hP 47 5 (gX_47 cs ad mu) rfl (show vp_in vk 4 from vi_of hx3.1 hx3.2) dX11_where_25 ?_
    have hk3 : 61 ≤ (61 + vk.toNatClampNeg) ∧ (61 + vk.toNatClampNeg) < 65 := ix_of hx3
    have hk3 : 61 ≤ (61 + vk.toNatClampNeg) ∧ (61 + vk.toNatClampNeg) < 77 := ⟨Nat.le_trans (by decide) hk3.1, Nat.lt_of_lt_of_le hk3.2 (by decide)⟩
    refine lq_v (.ref (ad (61 + vk.toNatClampNeg))) rfl ?_
    refine va_get (D := (dC, dI)) (ci := 3) (v := .int (mu (61 + vk.toNatClampNeg) 6)) (C := RX3) (T := TX3) (N := 10) hx hb hts inG3 hown hK hP (61 + vk.toNatClampNeg) (gX_letter cs ad mu (61 + vk.toNatClampNeg) hk3.1 hk3.2) rfl 6 (by decide) (hts _ (List.mem_cons_of_mem _ mw_1_70)) (fun _ h9 => h9) rfl dX11_where_26 ?_
    refine lv_topi (fun y4 ey4 => ?_)
    have hF := mi_let hF ey4
    have by4 : y4.toInt = (mu (61 + vk.toNatClampNeg) 6).toInt := congrArg Int32.toInt ey4
    refine va_put (D := (dC, dI)) (ci := 11) (v := .int y4) (ty := .int) (C := RX11) (T := TX11) (N := 11) hx hb hts inG11 tyX11 tyX11_ok nmX11 hown hK hP (wR_D mu hD) hS 0 (gX_0 cs ad mu) rfl 10 (by decide) (hts _ (List.mem_cons_of_mem _ mw_2_168)) (fun _ h9 => h9) rfl (by decide +kernel) rfl rfl (Nat.le_of_ble_eq_true rfl) dX11_where_29 (fun H locs hP _ hS => ?_)
    simp only [List.set_cons_succ, List.set_cons_zero] at hP
    refine wr_gen (upd (mu 0) 10 y4) hP ((hX_0_10 cs ad _ _)) (fun nu5 hn5 hP => ?_)
    have hF := mi_let hF hn5.symm
    have ok := tX_0_10 ok hn5
    have ez6 : y4 = nu5 (61 + vk.toNatClampNeg) 6 := ey4.trans (congrFun (up_k hn5 (ne_lo (by decide) hk3.1).symm) 6).symm
    have kp7 : (∀ k f : Nat, Nat.testBit 510 (gpX k f) = true → nu5 k f = mu k f) := kp_c 0 hn5 (fun _ => rfl) (by decide) (fun _ _ _ => rfl)
    have ez8 : y4 = nu5 0 10 := up_v hn5
    refine lv_aload_n hx hb dX11_where_32 rfl (lv_at hl 1 rfl) ?_
    refine va_get (D := (dC, dI)) (ci := 11) (v := .ref (ad 4)) (C := RX11) (T := TX11) (N := 11) hx hb hts inG11 hown hK hP 0 (gX_0 cs ad nu5) rfl 3 (by decide) (hts _ (List.mem_cons_of_mem _ mw_2_161)) (fun _ h9 => h9) rfl dX11_where_33 ?_
    refine va_get (D := (dC, dI)) (ci := 10) (v := .ref (ad 5)) (C := RX10) (T := TX10) (N := 8) hx hb hts inG10 hown hK hP 4 (gX_4 cs ad nu5) rfl 3 (by decide) (hts _ (List.mem_cons_of_mem _ mw_1_157)) (fun _ h9 => h9) rfl dX11_where_36 ?_
    refine va_get (D := (dC, dI)) (ci := 8) (v := .ref (ad 47)) (C := RX8) (T := TX8) (N := 6) hx hb hts inG8 hown hK hP 5 (gX_5 cs ad nu5) rfl 1 (by decide) (hts _ (List.mem_cons_of_mem _ mw_1_112)) (fun _ h9 => h9) rfl dX11_where_39 ?_
    refine lv_iload_n hx hb dX11_where_42 rfl (lv_at hl 2 rfl) ?_
    have hx9 : 0 ≤ vk.toInt ∧ vk.toInt < ((4 : Nat) : Int) := ⟨by omega, by omega⟩
    refine va_aldq hx hb hK hP 47 5 (gX_47 cs ad nu5) rfl (show vp_in vk 4 from vi_of hx9.1 hx9.2) dX11_where_43 ?_
    have hk9 : 61 ≤ (61 + vk.toNatClampNeg) ∧ (61 + vk.toNatClampNeg) < 65 := ix_of hx9
    have hk9 : 61 ≤ (61 + vk.toNatClampNeg) ∧ (61 + vk.toNatClampNeg) < 77 := ⟨Nat.le_trans (by decide) hk9.1, Nat.lt_of_lt_of_le hk9.2 (by decide)⟩
    refine lq_v (.ref (ad (61 + vk.toNatClampNeg))) rfl ?_
    refine va_get (D := (dC, dI)) (ci := 3) (v := .int (nu5 (61 + vk.toNatClampNeg) 5)) (C := RX3) (T := TX3) (N := 10) hx hb hts inG3 hown hK hP (61 + vk.toNatClampNeg) (gX_letter cs ad nu5 (61 + vk.toNatClampNeg) hk9.1 hk9.2) rfl 5 (by decide) (hts _ (List.mem_cons_of_mem _ mw_1_65)) (fun _ h9 => h9) rfl dX11_where_44 ?_
    refine lv_topi (fun y10 ey10 => ?_)
    have hF := mi_let hF ey10
    have by10 : y10.toInt = (nu5 (61 + vk.toNatClampNeg) 5).toInt := congrArg Int32.toInt ey10
    have gy10 : 0 ≤ y10.toInt ∧ y10.toInt ≤ 6 := by rw [ey10]; exact rX_letter_5 ok (61 + vk.toNatClampNeg) hk9.1 hk9.2
    exact W.iret (v := y10) hx hb hr (fun t ht hW => ⟨⟨y10, nu5, rfl, ⟨hF.trans hfz.symm, ok, trivial, kp7⟩, by first | (subst ht; exact hP) | (rw [ht]; exact hP) | (show va_P (dC, dI) vwCl (wR 157 ad (EX cs ad) nu5) t.heap; rw [ht]; exact hP)⟩, hS.F ht⟩) hS.2.2 dX11_where_47
  · have hF := (if_neg (show ¬ r1 = 0 from fun h => by have h9 := congrArg Int32.toInt h; have h8 : (0 : Int32).toInt = 0 := rfl; omega)).symm.trans hF
    have kp2 : (∀ k f : Nat, Nat.testBit 510 (gpX k f) = true → xi1 k f = mu k f) := kp_t hkp1_0 (by decide) (fun _ _ _ => rfl)
    skip
    refine lv_istore_n (lv' := [(2, .int r1), (0, .ref (ad 0)), (1, .int vk)]) hx hb dX11_where_6 rfl hl (by decide) rfl (fun ls hl => ?_)
    refine lv_iload_n hx hb dX11_where_7 rfl (lv_at hl 0 rfl) ?_
    refine lv_if_eq (tgt := 13) hx hb dX11_where_8 (by decide) (fun c_11 => by have c_11 : r1.toInt = 0 := il_eq c_11; exfalso; omega) (fun c_11 => ?_)
    have c_11 : ¬ r1.toInt = 0 := il_ne c_11
    refine lv_iload_n hx hb dX11_where_11 rfl (lv_at hl 0 rfl) ?_
    exact W.iret (v := r1) hx hb hr (fun t ht hW => ⟨⟨r1, xi1, rfl, ⟨hF.trans hfz.symm, ok, trivial, kp2⟩, by first | (subst ht; exact hP) | (rw [ht]; exact hP) | (show va_P (dC, dI) vwCl (wR 157 ad (EX cs ad) xi1) t.heap; rw [ht]; exact hP)⟩, hS.F ht⟩) hS.2.2 dX11_where_12
set_option maxHeartbeats 4000000 in
set_option maxRecDepth 100000 in
/-- qx_asked -/
theorem qx_asked (l : Launch) (dC : Nat → ClassId) (dI : Nat → Nat → Nat) (cs : Nat → ClassId) (ad : Nat → Nat) (mu : Nat → Nat → Int32) (ok : okR loX hiX mu) (H : Heap) (hP : va_P (dC, dI) vwCl (wR 157 ad (EX cs ad) mu) H) (hD0 : va_D (fun _ => True) (wR 157 ad (EX cs ad) mu)) : Met l yX11_asked (wU yX11_asked cX11_asked 1 (some .int)) ({ frames := 0, cells := 0, slots := 0, locals := 0 }) (va_Pc [.ref (ad 0)] (sz_P (dC, dI) vwCl (tyW cs) H)) (va_Qi (fun (z : Int32) (xi : Nat → Nat → Int32) => okR loX hiX xi ∧ (True) ∧ (∀ k f : Nat, Nat.testBit 510 (gpX k f) = true → xi k f = mu k f)) (fun xi t => va_P (dC, dI) vwCl (wR 157 ad (EX cs ad) xi) t.heap) (va_A (wR 157 ad (EX cs ad) mu) H.size)) 0 0 (va_A (wR 157 ad (EX cs ad) mu) H.size) := by
  refine Met.ofW (cc := cX11_asked) (maxL := 1) (ret := (some .int)) (by decide) rfl ?_
  intro p e s m args below meth c s₁ B hml hv
  obtain ⟨rfl, hh, hK, hz⟩ := hv
  have hx := B.exec
  have hb := B.bytes
  have hr := B.returns
  have hts := atoms_spec (ws := (wU yX11_asked cX11_asked 1 (some .int))) B.pre
  have hown : s.vm.findClass RX11 = some m.cls := findClass_of_methodNamed B.named
  have hlocks := B.notSynchronized
  subst hh
  have hD := hD0.self (sz := s.heap.size)
  have hA : ∀ q : Nat, s.heap.size ≤ q → (va_A (wR 157 ad (EX cs ad) mu) s.heap.size) q := fun q h => Or.inr h
  have hS : va_S (va_A (wR 157 ad (EX cs ad) mu) s.heap.size) s.heap s.heap [] := va_S.rf
  have hl := lv_entry ([.ref (ad 0)]) (n := 1) (Nat.le_of_ble_eq_true rfl)
  rw [lg_entry_eq]
  generalize (lg_sl ([.ref (ad 0)]) ++ List.replicate (1 - (lg_sl ([.ref (ad 0)])).length) Slot.unset).toArray = ls at hl ⊢
  have hl : lv_has ls 1 [(0, .ref (ad 0))] := hl
  refine lv_aload_n hx hb dX11_asked_0 rfl (lv_at hl 0 rfl) ?_
  refine va_get (D := (dC, dI)) (ci := 11) (v := .int (mu 0 10)) (C := RX11) (T := TX11) (N := 11) hx hb hts inG11 hown hK hP 0 (gX_0 cs ad mu) rfl 10 (by decide) (hts _ (List.mem_cons_of_mem _ mw_2_168)) (fun _ h9 => h9) rfl dX11_asked_1 ?_
  refine lv_topi (fun y1 ey1 => ?_)
  have by1 : y1.toInt = (mu 0 10).toInt := congrArg Int32.toInt ey1
  exact W.iret (v := y1) hx hb hr (fun t ht hW => ⟨⟨y1, mu, rfl, ⟨ok, trivial, (fun _ _ _ => rfl)⟩, by first | (subst ht; exact hP) | (rw [ht]; exact hP) | (show va_P (dC, dI) vwCl (wR 157 ad (EX cs ad) mu) t.heap; rw [ht]; exact hP)⟩, hS.F ht⟩) hS.2.2 dX11_asked_4
set_option maxHeartbeats 4000000 in
set_option maxRecDepth 100000 in
/-- qx_finding -/
theorem qx_finding (l : Launch) (dC : Nat → ClassId) (dI : Nat → Nat → Nat) (cs : Nat → ClassId) (ad : Nat → Nat) (mu : Nat → Nat → Int32) (ok : okR loX hiX mu) (H : Heap) (hP : va_P (dC, dI) vwCl (wR 157 ad (EX cs ad) mu) H) (hD0 : va_D (fun _ => True) (wR 157 ad (EX cs ad) mu)) : Met l yX11_finding (wU yX11_finding cX11_finding 1 (some .int)) ({ frames := 0, cells := 0, slots := 0, locals := 0 }) (va_Pc [.ref (ad 0)] (sz_P (dC, dI) vwCl (tyW cs) H)) (va_Qi (fun (z : Int32) (xi : Nat → Nat → Int32) => okR loX hiX xi ∧ (True) ∧ (∀ k f : Nat, Nat.testBit 510 (gpX k f) = true → xi k f = mu k f)) (fun xi t => va_P (dC, dI) vwCl (wR 157 ad (EX cs ad) xi) t.heap) (va_A (wR 157 ad (EX cs ad) mu) H.size)) 0 0 (va_A (wR 157 ad (EX cs ad) mu) H.size) := by
  refine Met.ofW (cc := cX11_finding) (maxL := 1) (ret := (some .int)) (by decide) rfl ?_
  intro p e s m args below meth c s₁ B hml hv
  obtain ⟨rfl, hh, hK, hz⟩ := hv
  have hx := B.exec
  have hb := B.bytes
  have hr := B.returns
  have hts := atoms_spec (ws := (wU yX11_finding cX11_finding 1 (some .int))) B.pre
  have hown : s.vm.findClass RX11 = some m.cls := findClass_of_methodNamed B.named
  have hlocks := B.notSynchronized
  subst hh
  have hD := hD0.self (sz := s.heap.size)
  have hA : ∀ q : Nat, s.heap.size ≤ q → (va_A (wR 157 ad (EX cs ad) mu) s.heap.size) q := fun q h => Or.inr h
  have hS : va_S (va_A (wR 157 ad (EX cs ad) mu) s.heap.size) s.heap s.heap [] := va_S.rf
  have hl := lv_entry ([.ref (ad 0)]) (n := 1) (Nat.le_of_ble_eq_true rfl)
  rw [lg_entry_eq]
  generalize (lg_sl ([.ref (ad 0)]) ++ List.replicate (1 - (lg_sl ([.ref (ad 0)])).length) Slot.unset).toArray = ls at hl ⊢
  have hl : lv_has ls 1 [(0, .ref (ad 0))] := hl
  refine lv_aload_n hx hb dX11_finding_0 rfl (lv_at hl 0 rfl) ?_
  refine va_get (D := (dC, dI)) (ci := 11) (v := .int (mu 0 9)) (C := RX11) (T := TX11) (N := 11) hx hb hts inG11 hown hK hP 0 (gX_0 cs ad mu) rfl 9 (by decide) (hts _ (List.mem_cons_of_mem _ mw_2_167)) (fun _ h9 => h9) rfl dX11_finding_1 ?_
  refine lv_topi (fun y1 ey1 => ?_)
  have by1 : y1.toInt = (mu 0 9).toInt := congrArg Int32.toInt ey1
  exact W.iret (v := y1) hx hb hr (fun t ht hW => ⟨⟨y1, mu, rfl, ⟨ok, trivial, (fun _ _ _ => rfl)⟩, by first | (subst ht; exact hP) | (rw [ht]; exact hP) | (show va_P (dC, dI) vwCl (wR 157 ad (EX cs ad) mu) t.heap; rw [ht]; exact hP)⟩, hS.F ht⟩) hS.2.2 dX11_finding_4
set_option maxHeartbeats 4000000 in
set_option maxRecDepth 100000 in
/-- qx_findings -/
theorem qx_findings (l : Launch) (dC : Nat → ClassId) (dI : Nat → Nat → Nat) (cs : Nat → ClassId) (ad : Nat → Nat) (mu : Nat → Nat → Int32) (ok : okR loX hiX mu) (H : Heap) (hP : va_P (dC, dI) vwCl (wR 157 ad (EX cs ad) mu) H) (hD0 : va_D (fun _ => True) (wR 157 ad (EX cs ad) mu)) (vf : Int32) : Met l yX11_findings (wU yX11_findings cX11_findings 2 (some .int)) ({ frames := 0, cells := 0, slots := 0, locals := 0 }) (va_Pc [.ref (ad 0), .int vf] (sz_P (dC, dI) vwCl (tyW cs) H)) (va_Qi (fun (z : Int32) (xi : Nat → Nat → Int32) => okR loX hiX xi ∧ (True) ∧ (∀ k f : Nat, Nat.testBit 510 (gpX k f) = true → xi k f = mu k f)) (fun xi t => va_P (dC, dI) vwCl (wR 157 ad (EX cs ad) xi) t.heap) (va_A (wR 157 ad (EX cs ad) mu) H.size)) 0 0 (va_A (wR 157 ad (EX cs ad) mu) H.size) := by
  refine Met.ofW (cc := cX11_findings) (maxL := 2) (ret := (some .int)) (by decide) rfl ?_
  intro p e s m args below meth c s₁ B hml hv
  obtain ⟨rfl, hh, hK, hz⟩ := hv
  have hx := B.exec
  have hb := B.bytes
  have hr := B.returns
  have hts := atoms_spec (ws := (wU yX11_findings cX11_findings 2 (some .int))) B.pre
  have hown : s.vm.findClass RX11 = some m.cls := findClass_of_methodNamed B.named
  have hlocks := B.notSynchronized
  subst hh
  have hD := hD0.self (sz := s.heap.size)
  have hA : ∀ q : Nat, s.heap.size ≤ q → (va_A (wR 157 ad (EX cs ad) mu) s.heap.size) q := fun q h => Or.inr h
  have hS : va_S (va_A (wR 157 ad (EX cs ad) mu) s.heap.size) s.heap s.heap [] := va_S.rf
  have hl := lv_entry ([.ref (ad 0), .int vf]) (n := 2) (Nat.le_of_ble_eq_true rfl)
  rw [lg_entry_eq]
  generalize (lg_sl ([.ref (ad 0), .int vf]) ++ List.replicate (2 - (lg_sl ([.ref (ad 0), .int vf])).length) Slot.unset).toArray = ls at hl ⊢
  have hl : lv_has ls 2 [(0, .ref (ad 0)), (1, .int vf)] := hl
  refine lv_iload_n hx hb dX11_findings_0 rfl (lv_at hl 1 rfl) ?_
  refine lv_iconst (v := 1) hx hb dX11_findings_1 (by decide) ?_
  refine lv_icmp_lt (tgt := 10) hx hb dX11_findings_2 (by decide) (fun c_1 => ?_) (fun c_1 => ?_)
  · have c_1 : vf.toInt < 1 := il_lt c_1
    refine lv_iconst (v := (-1)) hx hb dX11_findings_10 (by decide) ?_
    exact W.iret (v := (-1)) hx hb hr (fun t ht hW => ⟨⟨(-1), mu, rfl, ⟨ok, trivial, (fun _ _ _ => rfl)⟩, by first | (subst ht; exact hP) | (rw [ht]; exact hP) | (show va_P (dC, dI) vwCl (wR 157 ad (EX cs ad) mu) t.heap; rw [ht]; exact hP)⟩, hS.F ht⟩) hS.2.2 dX11_findings_11
  · have c_1 : 1 ≤ vf.toInt := il_nlt c_1
    refine lv_iload_n hx hb dX11_findings_5 rfl (lv_at hl 1 rfl) ?_
    refine lv_iconst (v := 5) hx hb dX11_findings_6 (by decide) ?_
    refine lv_icmp_le (tgt := 12) hx hb dX11_findings_7 (by decide) (fun c_2 => ?_) (fun c_2 => ?_)
    · have c_2 : vf.toInt ≤ 5 := il_le c_2
      refine lv_aload_n hx hb dX11_findings_12 rfl (lv_at hl 0 rfl) ?_
      refine va_get (D := (dC, dI)) (ci := 11) (v := .ref (ad 7)) (C := RX11) (T := TX11) (N := 11) hx hb hts inG11 hown hK hP 0 (gX_0 cs ad mu) rfl 8 (by decide) (hts _ (List.mem_cons_of_mem _ mw_2_166)) (fun _ h9 => h9) rfl dX11_findings_13 ?_
      refine lv_iload_n hx hb dX11_findings_16 rfl (lv_at hl 1 rfl) ?_
      refine va_iald hx hb hK hP 7 0 (gX_7 cs ad mu) rfl (show vp_in vf 6 from vi_of (by omega) (by omega)) dX11_findings_17 ?_
      refine lv_topi (fun y3 ey3 => ?_)
      have by3 : y3.toInt = (mu 7 vf.toNatClampNeg).toInt := congrArg Int32.toInt ey3
      exact W.iret (v := y3) hx hb hr (fun t ht hW => ⟨⟨y3, mu, rfl, ⟨ok, trivial, (fun _ _ _ => rfl)⟩, by first | (subst ht; exact hP) | (rw [ht]; exact hP) | (show va_P (dC, dI) vwCl (wR 157 ad (EX cs ad) mu) t.heap; rw [ht]; exact hP)⟩, hS.F ht⟩) hS.2.2 dX11_findings_18
    · have c_2 : 5 < vf.toInt := il_nle c_2
      refine lv_iconst (v := (-1)) hx hb dX11_findings_10 (by decide) ?_
      exact W.iret (v := (-1)) hx hb hr (fun t ht hW => ⟨⟨(-1), mu, rfl, ⟨ok, trivial, (fun _ _ _ => rfl)⟩, by first | (subst ht; exact hP) | (rw [ht]; exact hP) | (show va_P (dC, dI) vwCl (wR 157 ad (EX cs ad) mu) t.heap; rw [ht]; exact hP)⟩, hS.F ht⟩) hS.2.2 dX11_findings_11
set_option maxHeartbeats 4000000 in
set_option maxRecDepth 100000 in
/-- qx_snow -/
theorem qx_snow (l : Launch) (dC : Nat → ClassId) (dI : Nat → Nat → Nat) (cs : Nat → ClassId) (ad : Nat → Nat) (mu : Nat → Nat → Int32) (ok : okR loX hiX mu) (H : Heap) (hP : va_P (dC, dI) vwCl (wR 157 ad (EX cs ad) mu) H) (hD0 : va_D (fun _ => True) (wR 157 ad (EX cs ad) mu)) (vi : Int32) (vs : Int32) : Met l yX11_snow (wU yX11_snow cX11_snow 4 (some .int)) ({ frames := 0, cells := 0, slots := 0, locals := 0 }) (va_Pc [.ref (ad 0), .int vi, .int vs] (sz_P (dC, dI) vwCl (tyW cs) H)) (va_Qi (fun (z : Int32) (xi : Nat → Nat → Int32) => (z, xi) = F_qx_snow mu vi vs ∧ okR loX hiX xi ∧ (True) ∧ (∀ k f : Nat, Nat.testBit 446 (gpX k f) = true → xi k f = mu k f)) (fun xi t => va_P (dC, dI) vwCl (wR 157 ad (EX cs ad) xi) t.heap) (va_A (wR 157 ad (EX cs ad) mu) H.size)) 0 0 (va_A (wR 157 ad (EX cs ad) mu) H.size) := by
  refine Met.ofW (cc := cX11_snow) (maxL := 4) (ret := (some .int)) (by decide) rfl ?_
  intro p e s m args below meth c s₁ B hml hv
  obtain ⟨rfl, hh, hK, hz⟩ := hv
  have hx := B.exec
  have hb := B.bytes
  have hr := B.returns
  have hts := atoms_spec (ws := (wU yX11_snow cX11_snow 4 (some .int))) B.pre
  have hown : s.vm.findClass RX11 = some m.cls := findClass_of_methodNamed B.named
  have hlocks := B.notSynchronized
  subst hh
  have hD := hD0.self (sz := s.heap.size)
  have hA : ∀ q : Nat, s.heap.size ≤ q → (va_A (wR 157 ad (EX cs ad) mu) s.heap.size) q := fun q h => Or.inr h
  have hS : va_S (va_A (wR 157 ad (EX cs ad) mu) s.heap.size) s.heap s.heap [] := va_S.rf
  have hl := lv_entry ([.ref (ad 0), .int vi, .int vs]) (n := 4) (Nat.le_of_ble_eq_true rfl)
  rw [lg_entry_eq]
  generalize (lg_sl ([.ref (ad 0), .int vi, .int vs]) ++ List.replicate (4 - (lg_sl ([.ref (ad 0), .int vi, .int vs])).length) Slot.unset).toArray = ls at hl ⊢
  have hl : lv_has ls 4 [(0, .ref (ad 0)), (1, .int vi), (2, .int vs)] := hl
  obtain ⟨fz, hfz⟩ : ∃ z, F_qx_snow mu vi vs = z := ⟨_, rfl⟩
  have hF := hfz
  unfold F_qx_snow at hF
  refine lv_iload_n hx hb dX11_snow_0 rfl (lv_at hl 1 rfl) ?_
  refine lv_if_lt (tgt := 24) hx hb dX11_snow_1 (by decide) (fun c_1 => ?_) (fun c_1 => ?_)
  · have hF := (if_pos c_1).symm.trans hF
    have c_1 : vi.toInt < 0 := il_lt c_1
    refine lv_iconst (v := (-1)) hx hb dX11_snow_24 (by decide) ?_
    exact W.iret (v := (-1)) hx hb hr (fun t ht hW => ⟨⟨(-1), mu, rfl, ⟨hF.trans hfz.symm, ok, trivial, (fun _ _ _ => rfl)⟩, by first | (subst ht; exact hP) | (rw [ht]; exact hP) | (show va_P (dC, dI) vwCl (wR 157 ad (EX cs ad) mu) t.heap; rw [ht]; exact hP)⟩, hS.F ht⟩) hS.2.2 dX11_snow_25
  · have hF := (if_neg c_1).symm.trans hF
    have c_1 : 0 ≤ vi.toInt := il_nlt c_1
    refine lv_iload_n hx hb dX11_snow_4 rfl (lv_at hl 1 rfl) ?_
    refine lv_aload_n hx hb dX11_snow_5 rfl (lv_at hl 0 rfl) ?_
    refine va_get (D := (dC, dI)) (ci := 11) (v := .ref (ad 4)) (C := RX11) (T := TX11) (N := 11) hx hb hts inG11 hown hK hP 0 (gX_0 cs ad mu) rfl 3 (by decide) (hts _ (List.mem_cons_of_mem _ mw_2_161)) (fun _ h9 => h9) rfl dX11_snow_6 ?_
    refine va_get (D := (dC, dI)) (ci := 10) (v := .int (mu 4 7)) (C := RX10) (T := TX10) (N := 8) hx hb hts inG10 hown hK hP 4 (gX_4 cs ad mu) rfl 7 (by decide) (hts _ (List.mem_cons_of_mem _ mw_1_167)) (fun _ h9 => h9) rfl dX11_snow_9 ?_
    refine lv_topi (fun y2 ey2 => ?_)
    have hF := mi_let hF ey2
    have by2 : y2.toInt = (mu 4 7).toInt := congrArg Int32.toInt ey2
    have gy2 : 0 ≤ y2.toInt ∧ y2.toInt ≤ 12 := by rw [ey2]; exact rX_4_7 ok
    refine lv_icmp_ge (tgt := 24) hx hb dX11_snow_12 (by decide) (fun c_3 => ?_) (fun c_3 => ?_)
    · have hF := (if_pos c_3).symm.trans hF
      have c_3 : y2.toInt ≤ vi.toInt := il_le c_3
      refine lv_iconst (v := (-1)) hx hb dX11_snow_24 (by decide) ?_
      exact W.iret (v := (-1)) hx hb hr (fun t ht hW => ⟨⟨(-1), mu, rfl, ⟨hF.trans hfz.symm, ok, trivial, (fun _ _ _ => rfl)⟩, by first | (subst ht; exact hP) | (rw [ht]; exact hP) | (show va_P (dC, dI) vwCl (wR 157 ad (EX cs ad) mu) t.heap; rw [ht]; exact hP)⟩, hS.F ht⟩) hS.2.2 dX11_snow_25
    · have hF := (if_neg c_3).symm.trans hF
      have c_3 : vi.toInt < y2.toInt := il_nle c_3
      refine lv_iload_n hx hb dX11_snow_15 rfl (lv_at hl 2 rfl) ?_
      refine lv_if_lt (tgt := 24) hx hb dX11_snow_16 (by decide) (fun c_4 => ?_) (fun c_4 => ?_)
      · have hF := (if_pos c_4).symm.trans hF
        have c_4 : vs.toInt < 0 := il_lt c_4
        refine lv_iconst (v := (-1)) hx hb dX11_snow_24 (by decide) ?_
        exact W.iret (v := (-1)) hx hb hr (fun t ht hW => ⟨⟨(-1), mu, rfl, ⟨hF.trans hfz.symm, ok, trivial, (fun _ _ _ => rfl)⟩, by first | (subst ht; exact hP) | (rw [ht]; exact hP) | (show va_P (dC, dI) vwCl (wR 157 ad (EX cs ad) mu) t.heap; rw [ht]; exact hP)⟩, hS.F ht⟩) hS.2.2 dX11_snow_25
      · have hF := (if_neg c_4).symm.trans hF
        have c_4 : 0 ≤ vs.toInt := il_nlt c_4
        refine lv_iload_n hx hb dX11_snow_19 rfl (lv_at hl 2 rfl) ?_
        refine lv_iconst (v := 1) hx hb dX11_snow_20 (by decide) ?_
        refine lv_icmp_le (tgt := 26) hx hb dX11_snow_21 (by decide) (fun c_5 => ?_) (fun c_5 => ?_)
        · have hF := (if_pos c_5).symm.trans hF
          have c_5 : vs.toInt ≤ 1 := il_le c_5
          refine lv_aload_n hx hb dX11_snow_26 rfl (lv_at hl 0 rfl) ?_
          refine va_get (D := (dC, dI)) (ci := 11) (v := .ref (ad 4)) (C := RX11) (T := TX11) (N := 11) hx hb hts inG11 hown hK hP 0 (gX_0 cs ad mu) rfl 3 (by decide) (hts _ (List.mem_cons_of_mem _ mw_2_161)) (fun _ h9 => h9) rfl dX11_snow_27 ?_
          refine va_get (D := (dC, dI)) (ci := 10) (v := .ref (ad 5)) (C := RX10) (T := TX10) (N := 8) hx hb hts inG10 hown hK hP 4 (gX_4 cs ad mu) rfl 3 (by decide) (hts _ (List.mem_cons_of_mem _ mw_1_157)) (fun _ h9 => h9) rfl dX11_snow_30 ?_
          refine va_get (D := (dC, dI)) (ci := 8) (v := .int (mu 5 2)) (C := RX8) (T := TX8) (N := 6) hx hb hts inG8 hown hK hP 5 (gX_5 cs ad mu) rfl 2 (by decide) (hts _ (List.mem_cons_of_mem _ mw_1_118)) (fun _ h9 => h9) rfl dX11_snow_33 ?_
          refine lv_topi (fun y6 ey6 => ?_)
          have hF := mi_let hF ey6
          have by6 : y6.toInt = (mu 5 2).toInt := congrArg Int32.toInt ey6
          refine lv_iload_n hx hb dX11_snow_36 rfl (lv_at hl 1 rfl) ?_
          refine lv_ishr hx hb dX11_snow_37 ?_
          refine lv_topi (fun t7 et7 => ?_)
          have hF := mi_let hF et7
          refine lv_iconst (v := 1) hx hb dX11_snow_38 (by decide) ?_
          refine lv_iand hx hb dX11_snow_39 ?_
          refine lv_topi (fun t8 et8 => ?_)
          have hF := mi_let hF et8
          refine lv_istore_n (lv' := [(3, .int t8), (0, .ref (ad 0)), (1, .int vi), (2, .int vs)]) hx hb dX11_snow_40 rfl hl (by decide) rfl (fun ls hl => ?_)
          refine lv_aload_n hx hb dX11_snow_41 rfl (lv_at hl 1 rfl) ?_
          refine va_get (D := (dC, dI)) (ci := 11) (v := .ref (ad 4)) (C := RX11) (T := TX11) (N := 11) hx hb hts inG11 hown hK hP 0 (gX_0 cs ad mu) rfl 3 (by decide) (hts _ (List.mem_cons_of_mem _ mw_2_161)) (fun _ h9 => h9) rfl dX11_snow_42 ?_
          refine va_get (D := (dC, dI)) (ci := 10) (v := .ref (ad 5)) (C := RX10) (T := TX10) (N := 8) hx hb hts inG10 hown hK hP 4 (gX_4 cs ad mu) rfl 3 (by decide) (hts _ (List.mem_cons_of_mem _ mw_1_157)) (fun _ h9 => h9) rfl dX11_snow_45 ?_
          refine lv_aload_n hx hb dX11_snow_48 rfl (lv_at hl 1 rfl) ?_
          refine va_get (D := (dC, dI)) (ci := 11) (v := .ref (ad 4)) (C := RX11) (T := TX11) (N := 11) hx hb hts inG11 hown hK hP 0 (gX_0 cs ad mu) rfl 3 (by decide) (hts _ (List.mem_cons_of_mem _ mw_2_161)) (fun _ h9 => h9) rfl dX11_snow_49 ?_
          refine va_get (D := (dC, dI)) (ci := 10) (v := .ref (ad 5)) (C := RX10) (T := TX10) (N := 8) hx hb hts inG10 hown hK hP 4 (gX_4 cs ad mu) rfl 3 (by decide) (hts _ (List.mem_cons_of_mem _ mw_1_157)) (fun _ h9 => h9) rfl dX11_snow_52 ?_
          refine va_get (D := (dC, dI)) (ci := 8) (v := .int (mu 5 2)) (C := RX8) (T := TX8) (N := 6) hx hb hts inG8 hown hK hP 5 (gX_5 cs ad mu) rfl 2 (by decide) (hts _ (List.mem_cons_of_mem _ mw_1_118)) (fun _ h9 => h9) rfl dX11_snow_55 ?_
          refine lq_i y6 ey6.symm ?_
          refine lv_iconst (v := 1) hx hb dX11_snow_58 (by decide) ?_
          refine lv_iload_n hx hb dX11_snow_59 rfl (lv_at hl 2 rfl) ?_
          refine lv_ishl hx hb dX11_snow_60 ?_
          refine lv_topi (fun t9 et9 => ?_)
          have hF := mi_let hF et9
          refine lv_iconst (v := (-1)) hx hb dX11_snow_61 (by decide) ?_
          refine lv_ixor hx hb dX11_snow_62 ?_
          refine lv_topi (fun t10 et10 => ?_)
          have hF := mi_let hF et10
          refine lv_iand hx hb dX11_snow_63 ?_
          refine lv_topi (fun t11 et11 => ?_)
          have hF := mi_let hF et11
          refine lv_iload_n hx hb dX11_snow_64 rfl (lv_at hl 3 rfl) ?_
          refine lv_iload_n hx hb dX11_snow_65 rfl (lv_at hl 2 rfl) ?_
          refine lv_ishl hx hb dX11_snow_66 ?_
          refine lv_topi (fun t12 et12 => ?_)
          have hF := mi_let hF et12
          refine lv_ior hx hb dX11_snow_67 ?_
          refine lv_topi (fun t13 et13 => ?_)
          have hF := mi_let hF et13
          refine va_put (D := (dC, dI)) (ci := 8) (v := .int t13) (ty := .int) (C := RX8) (T := TX8) (N := 6) hx hb hts inG8 tyX8 tyX8_ok nmX8 hown hK hP (wR_D mu hD) hS 5 (gX_5 cs ad mu) rfl 2 (by decide) (hts _ (List.mem_cons_of_mem _ mw_1_118)) (fun _ h9 => h9) rfl (by decide +kernel) rfl rfl (Nat.le_of_ble_eq_true rfl) dX11_snow_68 (fun H locs hP _ hS => ?_)
          simp only [List.set_cons_succ, List.set_cons_zero] at hP
          refine wr_gen (upd (mu 5) 2 t13) hP ((hX_5_2 cs ad _ _)) (fun nu14 hn14 hP => ?_)
          have hF := mi_let hF hn14.symm
          have ok := tX_5_2 ok hn14
          have ez15 : y2 = nu14 4 7 := ey2.trans (congrFun (up_k hn14 (by decide)) 7).symm
          have kp16 : (∀ k f : Nat, Nat.testBit 446 (gpX k f) = true → nu14 k f = mu k f) := kp_f hn14 (by decide) (fun _ _ _ => rfl)
          have ez17 : t13 = nu14 5 2 := up_v hn14
          refine lv_iload_n hx hb dX11_snow_71 rfl (lv_at hl 0 rfl) ?_
          exact W.iret (v := t8) hx hb hr (fun t ht hW => ⟨⟨t8, nu14, rfl, ⟨hF.trans hfz.symm, ok, trivial, kp16⟩, by first | (subst ht; exact hP) | (rw [ht]; exact hP) | (show va_P (dC, dI) vwCl (wR 157 ad (EX cs ad) nu14) t.heap; rw [ht]; exact hP)⟩, hS.F ht⟩) hS.2.2 dX11_snow_72
        · have hF := (if_neg c_5).symm.trans hF
          have c_5 : 1 < vs.toInt := il_nle c_5
          refine lv_iconst (v := (-1)) hx hb dX11_snow_24 (by decide) ?_
          exact W.iret (v := (-1)) hx hb hr (fun t ht hW => ⟨⟨(-1), mu, rfl, ⟨hF.trans hfz.symm, ok, trivial, (fun _ _ _ => rfl)⟩, by first | (subst ht; exact hP) | (rw [ht]; exact hP) | (show va_P (dC, dI) vwCl (wR 157 ad (EX cs ad) mu) t.heap; rw [ht]; exact hP)⟩, hS.F ht⟩) hS.2.2 dX11_snow_25
theorem mw_3_91 : (Cond.constant RJ6 265 1431655765 : Cond) ∈ lw_good := lg_at 3 91 rfl rfl
theorem mw_3_92 : (Cond.constant RJ6 266 858993459 : Cond) ∈ lw_good := lg_at 3 92 rfl rfl
theorem mw_3_93 : (Cond.constant RJ6 267 252645135 : Cond) ∈ lw_good := lg_at 3 93 rfl rfl
theorem mw_1_152 : (Cond.fieldLink RX10 24 "DearLetters$Town" "now" "LDearLetters$Standing;" : Cond) ∈ lw_good := lg_at 1 152 rfl rfl
theorem mw_1_106 : (Cond.fieldLink RX10 45 "DearLetters$Standing" "purses" "[I" : Cond) ∈ lw_good := lg_at 1 106 rfl rfl
theorem mw_4_208 : (Cond.methodLink RX10 129 Lib.MathLoose.max_long.x : Cond) ∈ lw_good := lg_at 4 208 rfl rfl
theorem mw_4_209 : (Cond.static Lib.MathLoose.max_long.x : Cond) ∈ lw_good := lg_at 4 209 rfl rfl
theorem mw_1_17 : (Cond.initialized "java/lang/Math" : Cond) ∈ lw_good := lg_at 1 17 rfl rfl
theorem mw_4_210 : (Cond.code Lib.MathLoose.max_long.x Lib.MathLoose.max_long.code 4 (some .long) : Cond) ∈ lw_good := lg_at 4 210 rfl rfl
theorem mw_1_126 : (Cond.fieldLink RX10 64 "DearLetters$Standing" "sent" "I" : Cond) ∈ lw_good := lg_at 1 126 rfl rfl
theorem mw_1_111 : (Cond.fieldLink RX10 67 "DearLetters$Standing" "letters" "[LDearLetters$Letter;" : Cond) ∈ lw_good := lg_at 1 111 rfl rfl
theorem mw_1_64 : (Cond.fieldLink RX10 71 "DearLetters$Letter" "holder" "I" : Cond) ∈ lw_good := lg_at 1 64 rfl rfl
theorem mw_1_79 : (Cond.fieldLink RX10 76 "DearLetters$Letter" "isRead" "Z" : Cond) ∈ lw_good := lg_at 1 79 rfl rfl
theorem mw_1_55 : (Cond.fieldLink RX10 80 "DearLetters$Letter" "reader" "I" : Cond) ∈ lw_good := lg_at 1 55 rfl rfl
theorem mw_1_69 : (Cond.fieldLink RX10 83 "DearLetters$Letter" "paid" "I" : Cond) ∈ lw_good := lg_at 1 69 rfl rfl
theorem mw_1_116 : (Cond.fieldLink RX10 48 "DearLetters$Standing" "snow" "I" : Cond) ∈ lw_good := lg_at 1 116 rfl rfl
theorem mw_3_81 : (Cond.methodLink RX10 51 yX10_near : Cond) ∈ lw_good := lg_at 3 81 rfl rfl
theorem mw_1_143 : (Cond.fieldLink RX10 9 "DearLetters$Town" "kinds" "[I" : Cond) ∈ lw_good := lg_at 1 143 rfl rfl
theorem mw_3_104 : (Cond.code yX11_isOfKind cX11_isOfKind 2 (some .boolean) : Cond) ∈ lw_good := lg_at 3 104 rfl rfl
theorem mw_3_103 : (Cond.static yX11_isOfKind : Cond) ∈ lw_good := lg_at 3 103 rfl rfl
theorem mw_2_160 : (Cond.fieldLink RX11 23 "DearLetters" "kept" "[LDearLetters$Standing;" : Cond) ∈ lw_good := lg_at 2 160 rfl rfl
theorem mw_1_129 : (Cond.fieldLink RX11 135 "DearLetters$Standing" "there" "Z" : Cond) ∈ lw_good := lg_at 1 129 rfl rfl
theorem mw_2_7 : (Cond.fieldLink RX2 18 "DearLetters$Ledger" "size" "I" : Cond) ∈ lw_good := lg_at 2 7 rfl rfl
theorem mw_2_6 : (Cond.fieldLink RX2 11 "DearLetters$Ledger" "sales" "[LDearLetters$Sale;" : Cond) ∈ lw_good := lg_at 2 6 rfl rfl
theorem mw_1_226 : (Cond.fieldLink RX2 59 "DearLetters$Sale" "seller" "I" : Cond) ∈ lw_good := lg_at 1 226 rfl rfl
theorem mw_1_227 : (Cond.fieldLink RX2 62 "DearLetters$Sale" "buyer" "I" : Cond) ∈ lw_good := lg_at 1 227 rfl rfl
theorem mw_1_228 : (Cond.fieldLink RX2 65 "DearLetters$Sale" "price" "I" : Cond) ∈ lw_good := lg_at 1 228 rfl rfl
theorem mw_3_174 : (Cond.methodLink RX11 209 yX11_hasBit : Cond) ∈ lw_good := lg_at 3 174 rfl rfl
theorem rX_letter_1 {mu : Nat → Nat → Int32} (ok : okR loX hiX mu) (k : Nat) (h1 : 61 ≤ k) (h2 : k < 77) : 0 ≤ (mu k 1).toInt ∧ (mu k 1).toInt ≤ 6 := by
  have h := ok k 1
  unfold loX hiX at h
  rw [clX_letter k h1 h2] at h
  exact h
theorem rX_kept_5 {mu : Nat → Nat → Int32} (ok : okR loX hiX mu) (k : Nat) (h1 : 18 ≤ k) (h2 : k < 21) : 0 ≤ (mu k 5).toInt ∧ (mu k 5).toInt ≤ 1 := by
  have h := ok k 5
  unfold loX hiX at h
  rw [clX_kept k h1 h2] at h
  exact h
theorem rX_6_1 {mu : Nat → Nat → Int32} (ok : okR loX hiX mu) : 0 ≤ (mu 6 1).toInt ∧ (mu 6 1).toInt ≤ 40 := ok 6 1
theorem rX_sale_2 {mu : Nat → Nat → Int32} (ok : okR loX hiX mu) (k : Nat) (h1 : 77 ≤ k) (h2 : k < 117) : 0 ≤ (mu k 2).toInt ∧ (mu k 2).toInt ≤ 6 := by
  have h := ok k 2
  unfold loX hiX at h
  rw [clX_sale k h1 h2] at h
  exact h
