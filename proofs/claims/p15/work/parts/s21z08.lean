set_option maxHeartbeats 4000000 in
set_option maxRecDepth 100000 in
/-- sx_walkOn6 -/
theorem sx_walkOn6 (l : Launch) (dC : Nat → ClassId) (dI : Nat → Nat → Nat) (cs : Nat → ClassId) (ad : Nat → Nat) (mu : Nat → Nat → Int32) (ok : okR loX hiX mu) (H : Heap) (hP : va_P (dC, dI) vwCl (wR 157 ad (EX cs ad) mu) H) (hD0 : va_D (fun _ => True) (wR 157 ad (EX cs ad) mu)) (vu : Int32) (vp : Int32) : Met l yX5_walkOn (wU yX5_walkOn cX5_walkOn 9 none) ({ frames := 1, cells := 0, slots := 0, locals := 21 }) (va_Pc [.ref (ad 32), .ref (ad 4), .int 6, .int vu, .int vp] (sz_P (dC, dI) vwCl (tyW cs) H)) (va_Qv (fun (xi : Nat → Nat → Int32) => okR loX hiX xi ∧ (True) ∧ (∀ k f : Nat, Nat.testBit 510 (gpX k f) = true → xi k f = mu k f)) (fun xi t => va_P (dC, dI) vwCl (wR 157 ad (EX cs ad) xi) t.heap) (va_A (wR 157 ad (EX cs ad) mu) H.size)) 0 0 (va_A (wR 157 ad (EX cs ad) mu) H.size) := by
  refine Met.ofW (cc := cX5_walkOn) (maxL := 9) (ret := none) (by decide) rfl ?_
  intro p e s m args below meth c s₁ B hml hv
  obtain ⟨rfl, hh, hK, hz⟩ := hv
  have hx := B.exec
  have hb := B.bytes
  have hr := B.returns
  have hts := atoms_spec (ws := (wU yX5_walkOn cX5_walkOn 9 none)) B.pre
  have hown : s.vm.findClass RX5 = some m.cls := findClass_of_methodNamed B.named
  have hlocks := B.notSynchronized
  subst hh
  have hD := hD0.self (sz := s.heap.size)
  have hA : ∀ q : Nat, s.heap.size ≤ q → (va_A (wR 157 ad (EX cs ad) mu) s.heap.size) q := fun q h => Or.inr h
  have hS : va_S (va_A (wR 157 ad (EX cs ad) mu) s.heap.size) s.heap s.heap [] := va_S.rf
  have hl := lv_entry ([.ref (ad 32), .ref (ad 4), .int 6, .int vu, .int vp]) (n := 9) (Nat.le_of_ble_eq_true rfl)
  rw [lg_entry_eq]
  generalize (lg_sl ([.ref (ad 32), .ref (ad 4), .int 6, .int vu, .int vp]) ++ List.replicate (9 - (lg_sl ([.ref (ad 32), .ref (ad 4), .int 6, .int vu, .int vp])).length) Slot.unset).toArray = ls at hl ⊢
  have hl : lv_has ls 9 [(0, .ref (ad 32)), (1, .ref (ad 4)), (2, .int 6), (3, .int vu), (4, .int vp)] := hl
  refine lv_aload_n hx hb dX5_walkOn_0 rfl (lv_at hl 0 rfl) ?_
  refine va_get (D := (dC, dI)) (ci := 5) (v := .ref (ad 54)) (C := RX5) (T := TX5) (N := 15) hx hb hts inG5 hown hK hP 32 (gX_32 cs ad mu) rfl 2 (by decide) (hts _ (List.mem_cons_of_mem _ mw_2_48)) (fun _ h9 => h9) rfl dX5_walkOn_1 ?_
  refine lv_iload_n hx hb dX5_walkOn_4 rfl (lv_at hl 2 rfl) ?_
  refine va_iald hx hb hK hP 54 0 (gX_54 cs ad mu) rfl (show vp_in 6 7 from (by unfold vp_in; decide)) dX5_walkOn_5 ?_
  refine lv_topi (fun y1 ey1 => ?_)
  have by1 : y1.toInt = (mu 54 (6 : Int32).toNatClampNeg).toInt := congrArg Int32.toInt ey1
  have gy1 : 0 ≤ y1.toInt ∧ y1.toInt ≤ 6 := by rw [ey1]; exact rX_54_s ok (6 : Int32).toNatClampNeg
  refine lv_istore (lv' := [(5, .int y1), (0, .ref (ad 32)), (1, .ref (ad 4)), (2, .int 6), (3, .int vu), (4, .int vp)]) hx hb dX5_walkOn_6 hl (by decide) rfl (fun ls hl => ?_)
  refine lv_aload_n hx hb dX5_walkOn_8 rfl (lv_at hl 2 rfl) ?_
  refine va_get (D := (dC, dI)) (ci := 10) (v := .ref (ad 34)) (C := RX10) (T := TX10) (N := 8) hx hb hts inG10 hown hK hP 4 (gX_4 cs ad mu) rfl 0 (by decide) (hts _ (List.mem_cons_of_mem _ mw_1_146)) (fun _ h9 => h9) rfl dX5_walkOn_9 ?_
  refine lv_iload hx hb dX5_walkOn_12 (lv_at hl 0 rfl) ?_
  refine va_iald hx hb hK hP 34 0 (gX_34 cs ad mu) rfl (show vp_in y1 7 from vi_of (by omega) (by omega)) dX5_walkOn_14 ?_
  refine lv_topi (fun y2 ey2 => ?_)
  have by2 : y2.toInt = (mu 34 y1.toNatClampNeg).toInt := congrArg Int32.toInt ey2
  refine lv_iload hx hb dX5_walkOn_15 (lv_at hl 5 rfl) ?_
  refine cr_i (va_runSN (As := [.int y2, .int vp]) (rest := []) ⟨hx, hb, hml, hown, hts⟩ (sx_priceAsked l dC dI (tyW cs) s.heap y2 vp) ⟨va_cnB 2 hts (wU_in mw_3_107) rfl rfl rfl (hz.2.2.2.2.2.2.2.2.2.2.2.2.2.1) (hts _ (List.mem_cons_of_mem _ mw_1_1)) (by decide +kernel) ⟨Nat.le_of_ble_eq_true rfl, Nat.le_of_ble_eq_true rfl⟩, (hts _ (List.mem_cons_of_mem _ mw_3_106)), trivial⟩ ⟨sz_c, sz_m hK hz⟩ rfl rfl hl.1 rfl (lv_room (Nat.le_of_ble_eq_true rfl)) dX5_walkOn_17 ⟨Nat.zero_le _, Nat.zero_le _⟩) hS (fun r3 hw3 locs hS => ?_)
  obtain ⟨hfe3, hw3⟩ := hw3
  refine lv_istore (lv' := [(6, .int r3), (5, .int y1), (0, .ref (ad 32)), (1, .ref (ad 4)), (2, .int 6), (3, .int vu), (4, .int vp)]) hx hb dX5_walkOn_20 hl (by decide) rfl (fun ls hl => ?_)
  refine lv_iload_n hx hb dX5_walkOn_22 rfl (lv_at hl 4 rfl) ?_
  refine lv_iconst (v := 1) hx hb dX5_walkOn_23 (by decide) ?_
  refine lv_iadd hx hb dX5_walkOn_24 ?_
  refine lq_i 7 (by decide) ?_
  refine lv_istore (lv' := [(7, .int 7), (6, .int r3), (5, .int y1), (0, .ref (ad 32)), (1, .ref (ad 4)), (2, .int 6), (3, .int vu), (4, .int vp)]) hx hb dX5_walkOn_25 hl (by decide) rfl (fun ls hl => ?_)
  refine lv_iconst (v := 0) hx hb dX5_walkOn_27 (by decide) ?_
  refine lv_istore (lv' := [(8, .int 0), (7, .int 7), (6, .int r3), (5, .int y1), (0, .ref (ad 32)), (1, .ref (ad 4)), (2, .int 6), (3, .int vu), (4, .int vp)]) hx hb dX5_walkOn_28 hl (by decide) rfl (fun ls hl => ?_)
  have loop30 : ∀ (n30 : Nat) (v8_30 : Int32) (nu30_ : Nat → Nat → Int32) (H : Heap) (locs : List Loc) (ls : Array Slot), (7 + 1 - v8_30.toInt).toNat < n30 → (0 ≤ v8_30.toInt ∧ v8_30.toInt ≤ 7) → okR loX hiX nu30_ → va_P (dC, dI) vwCl (wR 157 ad (EX cs ad) nu30_) H → (∀ k f : Nat, Nat.testBit 510 (gpX k f) = true → nu30_ k f = mu k f) → va_S (va_A (wR 157 ad (EX cs ad) mu) s.heap.size) s.heap H locs → lv_has ls 9 [(8, .int v8_30), (7, .int 7), (6, .int r3), (5, .int y1), (0, .ref (ad 32)), (1, .ref (ad 4)), (2, .int 6), (3, .int vu), (4, .int vp)] → W p l e (headSpec (wU yX5_walkOn cX5_walkOn 9 none) ({ frames := 1, cells := 0, slots := 0, locals := 21 })).room s m ([.ref (ad 32), .ref (ad 4), .int 6, .int vu, .int vp] : List Value).toArray below meth c H locs 0 0 (MQ below (va_Qv (fun (xi : Nat → Nat → Int32) => okR loX hiX xi ∧ (True) ∧ (∀ k f : Nat, Nat.testBit 510 (gpX k f) = true → xi k f = mu k f)) (fun xi t => va_P (dC, dI) vwCl (wR 157 ad (EX cs ad) xi) t.heap) (va_A (wR 157 ad (EX cs ad) mu) s.heap.size)) ([.ref (ad 32), .ref (ad 4), .int 6, .int vu, .int vp] : List Value).toArray s 0 0 (va_A (wR 157 ad (EX cs ad) mu) s.heap.size)) (F0 m 30 ls []) := by
    intro n30
    induction n30 with
    | zero => intro v8_30 nu30_ H locs ls hm; exact absurd hm (Nat.not_lt_zero _)
    | succ n30 ih30 =>
      intro v8_30 nu30_ H locs ls hm h_v8_30 ok hP kq30_0 hS hl
      refine lv_iload hx hb dX5_walkOn_30 (lv_at hl 0 rfl) ?_
      refine lv_aload_n hx hb dX5_walkOn_32 rfl (lv_at hl 5 rfl) ?_
      refine va_get (D := (dC, dI)) (ci := 10) (v := .int (nu30_ 4 6)) (C := RX10) (T := TX10) (N := 8) hx hb hts inG10 hown hK hP 4 (gX_4 cs ad nu30_) rfl 6 (by decide) (hts _ (List.mem_cons_of_mem _ mw_1_162)) (fun _ h9 => h9) rfl dX5_walkOn_33 ?_
      refine lv_topi (fun y4 ey4 => ?_)
      have by4 : y4.toInt = (nu30_ 4 6).toInt := congrArg Int32.toInt ey4
      have gy4 : 0 ≤ y4.toInt ∧ y4.toInt ≤ 7 := by rw [ey4]; exact rX_4_6 ok
      refine lv_icmp_ge (tgt := 115) hx hb dX5_walkOn_36 (by decide) (fun c_5 => ?_) (fun c_5 => ?_)
      · have c_5 : y4.toInt ≤ v8_30.toInt := il_le c_5
        exact W.vret hx hb hr (fun t ht hW => ⟨⟨nu30_, rfl, ⟨ok, trivial, kq30_0⟩, by first | (subst ht; exact hP) | (rw [ht]; exact hP) | (show va_P (dC, dI) vwCl (wR 157 ad (EX cs ad) nu30_) t.heap; rw [ht]; exact hP)⟩, hS.F ht⟩) hS.2.2 dX5_walkOn_115
      · have c_5 : v8_30.toInt < y4.toInt := il_nle c_5
        refine lv_iload hx hb dX5_walkOn_39 (lv_at hl 1 rfl) ?_
        refine lv_bipush (v := 7) hx hb dX5_walkOn_41 (by decide) ?_
        refine lv_icmp_ge (tgt := 115) hx hb dX5_walkOn_43 (by decide) (fun _ => ?_) (fun c => absurd (by decide) c)
        exact W.vret hx hb hr (fun t ht hW => ⟨⟨nu30_, rfl, ⟨ok, trivial, kq30_0⟩, by first | (subst ht; exact hP) | (rw [ht]; exact hP) | (show va_P (dC, dI) vwCl (wR 157 ad (EX cs ad) nu30_) t.heap; rw [ht]; exact hP)⟩, hS.F ht⟩) hS.2.2 dX5_walkOn_115
  exact loop30 ((7 + 1 - (0 : Int32).toInt).toNat + 1) (0) mu _ _ _ (Nat.lt_succ_self _) (by have h80 : (0 : Int32).toInt = 0 := rfl; exact ⟨by omega, by omega⟩)  ok hP  (fun _ _ _ => rfl) hS hl
