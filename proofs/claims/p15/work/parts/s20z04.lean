set_option maxHeartbeats 4000000 in
set_option maxRecDepth 100000 in
/-- qx_undo -/
theorem qx_undo (l : Launch) (dC : Nat → ClassId) (dI : Nat → Nat → Nat) (cs : Nat → ClassId) (ad : Nat → Nat) (mu : Nat → Nat → Int32) (ok : okR loX hiX mu) (H : Heap) (hP : va_P (dC, dI) vwCl (wR 157 ad (EX cs ad) mu) H) (hD0 : va_D (fun _ => True) (wR 157 ad (EX cs ad) mu)) (vn : Int32) : Met l yX11_undo (wU yX11_undo cX11_undo 4 (some .int)) ({ frames := 2, cells := 0, slots := 0, locals := 83 }) (va_Pc [.ref (ad 0), .int vn] (sz_P (dC, dI) vwCl (tyW cs) H)) (va_Qi (fun (z : Int32) (xi : Nat → Nat → Int32) => (z, xi) = F_qx_undo mu vn ∧ okR loX hiX xi ∧ (True) ∧ (∀ k f : Nat, Nat.testBit 486 (gpX k f) = true → xi k f = mu k f)) (fun xi t => va_P (dC, dI) vwCl (wR 157 ad (EX cs ad) xi) t.heap) (va_A (wR 157 ad (EX cs ad) mu) H.size)) 0 0 (va_A (wR 157 ad (EX cs ad) mu) H.size) := by
  refine Met.ofW (cc := cX11_undo) (maxL := 4) (ret := (some .int)) (by decide) rfl ?_
  intro p e s m args below meth c s₁ B hml hv
  obtain ⟨rfl, hh, hK, hz⟩ := hv
  have hx := B.exec
  have hb := B.bytes
  have hr := B.returns
  have hts := atoms_spec (ws := (wU yX11_undo cX11_undo 4 (some .int))) B.pre
  have hown : s.vm.findClass RX11 = some m.cls := findClass_of_methodNamed B.named
  have hlocks := B.notSynchronized
  subst hh
  have hD := hD0.self (sz := s.heap.size)
  have hA : ∀ q : Nat, s.heap.size ≤ q → (va_A (wR 157 ad (EX cs ad) mu) s.heap.size) q := fun q h => Or.inr h
  have hS : va_S (va_A (wR 157 ad (EX cs ad) mu) s.heap.size) s.heap s.heap [] := va_S.rf
  have hl := lv_entry ([.ref (ad 0), .int vn]) (n := 4) (Nat.le_of_ble_eq_true rfl)
  rw [lg_entry_eq]
  generalize (lg_sl ([.ref (ad 0), .int vn]) ++ List.replicate (4 - (lg_sl ([.ref (ad 0), .int vn])).length) Slot.unset).toArray = ls at hl ⊢
  have hl : lv_has ls 4 [(0, .ref (ad 0)), (1, .int vn)] := hl
  obtain ⟨fz, hfz⟩ : ∃ z, F_qx_undo mu vn = z := ⟨_, rfl⟩
  have hF := hfz
  unfold F_qx_undo at hF
  refine lv_iload_n hx hb dX11_undo_0 rfl (lv_at hl 1 rfl) ?_
  refine lv_if_lt (tgt := 15) hx hb dX11_undo_1 (by decide) (fun c_1 => ?_) (fun c_1 => ?_)
  · have hF := (if_pos c_1).symm.trans hF
    have c_1 : vn.toInt < 0 := il_lt c_1
    refine lv_iconst (v := (-1)) hx hb dX11_undo_15 (by decide) ?_
    exact W.iret (v := (-1)) hx hb hr (fun t ht hW => ⟨⟨(-1), mu, rfl, ⟨hF.trans hfz.symm, ok, trivial, (fun _ _ _ => rfl)⟩, by first | (subst ht; exact hP) | (rw [ht]; exact hP) | (show va_P (dC, dI) vwCl (wR 157 ad (EX cs ad) mu) t.heap; rw [ht]; exact hP)⟩, hS.F ht⟩) hS.2.2 dX11_undo_16
  · have hF := (if_neg c_1).symm.trans hF
    have c_1 : 0 ≤ vn.toInt := il_nlt c_1
    refine lv_iload_n hx hb dX11_undo_4 rfl (lv_at hl 1 rfl) ?_
    refine lv_aload_n hx hb dX11_undo_5 rfl (lv_at hl 0 rfl) ?_
    refine va_get (D := (dC, dI)) (ci := 11) (v := .ref (ad 6)) (C := RX11) (T := TX11) (N := 11) hx hb hts inG11 hown hK hP 0 (gX_0 cs ad mu) rfl 5 (by decide) (hts _ (List.mem_cons_of_mem _ mw_2_163)) (fun _ h9 => h9) rfl dX11_undo_6 ?_
    refine va_get (D := (dC, dI)) (ci := 2) (v := .int (mu 6 1)) (C := RX2) (T := TX2) (N := 2) hx hb hts inG2 hown hK hP 6 (gX_6 cs ad mu) rfl 1 (by decide) (hts _ (List.mem_cons_of_mem _ mw_2_8)) (fun _ h9 => h9) rfl dX11_undo_9 ?_
    refine lv_topi (fun y2 ey2 => ?_)
    have hF := mi_let hF ey2
    have by2 : y2.toInt = (mu 6 1).toInt := congrArg Int32.toInt ey2
    have gy2 : 0 ≤ y2.toInt ∧ y2.toInt ≤ 40 := by rw [ey2]; exact rX_6_1 ok
    refine lv_icmp_le (tgt := 17) hx hb dX11_undo_12 (by decide) (fun c_3 => ?_) (fun c_3 => ?_)
    · have hF := (if_pos c_3).symm.trans hF
      have c_3 : vn.toInt ≤ y2.toInt := il_le c_3
      refine lv_aload_n hx hb dX11_undo_17 rfl (lv_at hl 0 rfl) ?_
      refine va_get (D := (dC, dI)) (ci := 11) (v := .ref (ad 6)) (C := RX11) (T := TX11) (N := 11) hx hb hts inG11 hown hK hP 0 (gX_0 cs ad mu) rfl 5 (by decide) (hts _ (List.mem_cons_of_mem _ mw_2_163)) (fun _ h9 => h9) rfl dX11_undo_18 ?_
      refine va_get (D := (dC, dI)) (ci := 2) (v := .int (mu 6 1)) (C := RX2) (T := TX2) (N := 2) hx hb hts inG2 hown hK hP 6 (gX_6 cs ad mu) rfl 1 (by decide) (hts _ (List.mem_cons_of_mem _ mw_2_8)) (fun _ h9 => h9) rfl dX11_undo_21 ?_
      refine lq_i y2 ey2.symm ?_
      refine lv_iload_n hx hb dX11_undo_24 rfl (lv_at hl 1 rfl) ?_
      refine lv_isub hx hb dX11_undo_25 ?_
      refine lv_topi (fun t4 et4 => ?_)
      have hF := mi_let hF et4
      have at4 : t4.toInt = y2.toInt - vn.toInt := by rw [et4]; exact tI_sub (rfl : y2.toInt = _) (rfl : vn.toInt = _) (by omega) (by omega)
      refine lv_istore_n (lv' := [(2, .int t4), (0, .ref (ad 0)), (1, .int vn)]) hx hb dX11_undo_26 rfl hl (by decide) rfl (fun ls hl => ?_)
      refine lv_iconst (v := 0) hx hb dX11_undo_27 (by decide) ?_
      refine lv_istore_n (lv' := [(3, .int 0), (2, .int t4), (0, .ref (ad 0)), (1, .int vn)]) hx hb dX11_undo_28 rfl hl (by decide) rfl (fun ls hl => ?_)
      have loop29 : ∀ (n29 : Nat) (v3_29 : Int32) (nu29_ : Nat → Nat → Int32) (H : Heap) (locs : List Loc) (ls : Array Slot), (40 + 1 - v3_29.toInt).toNat < n29 → (0 ≤ v3_29.toInt ∧ v3_29.toInt ≤ 40) → okR loX hiX nu29_ → va_P (dC, dI) vwCl (wR 157 ad (EX cs ad) nu29_) H → (∀ k f : Nat, Nat.testBit 486 (gpX k f) = true → nu29_ k f = mu k f) → L_qx_undo_29_0 t4 n29 v3_29 nu29_ = fz → va_S (va_A (wR 157 ad (EX cs ad) mu) s.heap.size) s.heap H locs → lv_has ls 4 [(3, .int v3_29), (2, .int t4), (0, .ref (ad 0)), (1, .int vn)] → W p l e (headSpec (wU yX11_undo cX11_undo 4 (some .int)) ({ frames := 2, cells := 0, slots := 0, locals := 83 })).room s m ([.ref (ad 0), .int vn] : List Value).toArray below meth c H locs 0 0 (MQ below (va_Qi (fun (z : Int32) (xi : Nat → Nat → Int32) => (z, xi) = F_qx_undo mu vn ∧ okR loX hiX xi ∧ (True) ∧ (∀ k f : Nat, Nat.testBit 486 (gpX k f) = true → xi k f = mu k f)) (fun xi t => va_P (dC, dI) vwCl (wR 157 ad (EX cs ad) xi) t.heap) (va_A (wR 157 ad (EX cs ad) mu) s.heap.size)) ([.ref (ad 0), .int vn] : List Value).toArray s 0 0 (va_A (wR 157 ad (EX cs ad) mu) s.heap.size)) (F0 m 29 ls []) := by
        intro n29
        induction n29 with
        | zero => intro v3_29 nu29_ H locs ls hm; exact absurd hm (Nat.not_lt_zero _)
        | succ n29 ih29 =>
          intro v3_29 nu29_ H locs ls hm h_v3_29 ok hP kq29_0 hF hS hl
          rw [L_qx_undo_29_0] at hF
          refine lv_iload_n hx hb dX11_undo_29 rfl (lv_at hl 0 rfl) ?_
          refine lv_iload_n hx hb dX11_undo_30 rfl (lv_at hl 1 rfl) ?_
          refine lv_icmp_ge (tgt := 51) hx hb dX11_undo_31 (by decide) (fun c_5 => ?_) (fun c_5 => ?_)
          · have hF := (if_pos c_5).symm.trans hF
            have c_5 : t4.toInt ≤ v3_29.toInt := il_le c_5
            refine lv_iload_n hx hb dX11_undo_51 rfl (lv_at hl 1 rfl) ?_
            exact W.iret (v := t4) hx hb hr (fun t ht hW => ⟨⟨t4, nu29_, rfl, ⟨hF.trans hfz.symm, ok, trivial, kq29_0⟩, by first | (subst ht; exact hP) | (rw [ht]; exact hP) | (show va_P (dC, dI) vwCl (wR 157 ad (EX cs ad) nu29_) t.heap; rw [ht]; exact hP)⟩, hS.F ht⟩) hS.2.2 dX11_undo_52
          · have hF := (if_neg c_5).symm.trans hF
            have c_5 : v3_29.toInt < t4.toInt := il_nle c_5
            refine lv_aload_n hx hb dX11_undo_34 rfl (lv_at hl 2 rfl) ?_
            refine va_get (D := (dC, dI)) (ci := 11) (v := .ref (ad 6)) (C := RX11) (T := TX11) (N := 11) hx hb hts inG11 hown hK hP 0 (gX_0 cs ad nu29_) rfl 5 (by decide) (hts _ (List.mem_cons_of_mem _ mw_2_163)) (fun _ h9 => h9) rfl dX11_undo_35 ?_
            refine lv_aload_n hx hb dX11_undo_38 rfl (lv_at hl 2 rfl) ?_
            refine va_get (D := (dC, dI)) (ci := 11) (v := .ref (ad 4)) (C := RX11) (T := TX11) (N := 11) hx hb hts inG11 hown hK hP 0 (gX_0 cs ad nu29_) rfl 3 (by decide) (hts _ (List.mem_cons_of_mem _ mw_2_161)) (fun _ h9 => h9) rfl dX11_undo_39 ?_
            have hFc := fr_all (wR_D nu29_ hD) hS hA
            refine va_callv (va_runV (As := [.ref (ad 4)]) (rest := []) ⟨hx, hb, hml, hown, hts⟩ (sx_undoLast l dC dI cs ad nu29_ ok H hP ((wR_D nu29_ hD).weaken (fun _ _ _ _ => trivial))) (cwV 1 hts (wU_V mw_3_213 mw_3_210 mw_3_211 mw_3_212 mw_1_6) rfl rfl rfl (by decide +kernel) ⟨Nat.le_of_ble_eq_true rfl, Nat.le_of_ble_eq_true rfl⟩) ⟨sz_c, va_recv hK hP (ci := 2) (q0 := 6) rfl (gX_6 cs ad nu29_), sz_m hK hz⟩ rfl rfl hl.1 rfl (lv_room (Nat.le_of_ble_eq_true rfl)) dX11_undo_42 ⟨Nat.zero_le _, Nat.zero_le _⟩) hS (fun q _ h => hFc q h) hFc (fun xi6 t H6 locs ht hvm hw6 hB hz1 hk1 hS => ?_)
            have hP : va_P (dC, dI) vwCl (wR 157 ad (EX cs ad) xi6) H6 := by rw [← ht]; exact hB
            obtain ⟨hfe6, ok, hw6, hkp6_0⟩ := hw6
            have hF := mi_let hF hfe6
            have kp7 : (∀ k f : Nat, Nat.testBit 486 (gpX k f) = true → xi6 k f = mu k f) := kp_t hkp6_0 (by decide) kq29_0
            refine lv_iinc (v := (v3_29 + 1)) (lv' := [(3, .int (v3_29 + 1)), (2, .int t4), (0, .ref (ad 0)), (1, .int vn)]) hx hb dX11_undo_45 hl (k := 0) rfl rfl (by decide) rfl (fun ls hl => ?_)
            refine loc_gen (P := fun w9 => lv_has ls 4 [(3, .int w9), (2, .int t4), (0, .ref (ad 0)), (1, .int vn)]) (v3_29 + 1) hl (fun w8 hw8 hl => ?_)
            have hl : lv_has ls 4 [(3, .int w8), (2, .int t4), (0, .ref (ad 0)), (1, .int vn)] := hl
            have hF := mi_let hF hw8.symm
            have aw8 : w8.toInt = v3_29.toInt + 1 := by rw [← hw8]; exact tI_add (rfl : v3_29.toInt = _) (rfl : (1 : Int32).toInt = 1) (by omega) (by omega)
            refine lv_goto (tgt := 29) hx hb dX11_undo_48 (by decide) ?_
            exact ih29 (w8) xi6 _ _ _ (by omega) (by exact ⟨by omega, by omega⟩)  ok hP  kp7 hF hS (lv_sub hl [0, 1, 2, 3] rfl)
      exact loop29 43 (0) mu _ _ _ (by have h80 : (0 : Int32).toInt = 0 := rfl; omega) (by have h80 : (0 : Int32).toInt = 0 := rfl; exact ⟨by omega, by omega⟩)  ok hP  (fun _ _ _ => rfl) hF hS hl
    · have hF := (if_neg c_3).symm.trans hF
      have c_3 : y2.toInt < vn.toInt := il_nle c_3
      refine lv_iconst (v := (-1)) hx hb dX11_undo_15 (by decide) ?_
      exact W.iret (v := (-1)) hx hb hr (fun t ht hW => ⟨⟨(-1), mu, rfl, ⟨hF.trans hfz.symm, ok, trivial, (fun _ _ _ => rfl)⟩, by first | (subst ht; exact hP) | (rw [ht]; exact hP) | (show va_P (dC, dI) vwCl (wR 157 ad (EX cs ad) mu) t.heap; rw [ht]; exact hP)⟩, hS.F ht⟩) hS.2.2 dX11_undo_16
