set_option maxHeartbeats 4000000 in
set_option maxRecDepth 100000 in
/-- sm_copyRoute17 -/
theorem sm_copyRoute17 (l : Launch) (dC : Nat → ClassId) (dI : Nat → Nat → Nat) (cs : Nat → ClassId) (ad : Nat → Nat) (mu : Nat → Nat → Int32) (ok : okR loM hiM mu) (H : Heap) (hP : va_P (dC, dI) vwCl (wR 21 ad (EM cs ad) mu) H) (hD0 : va_D (fun _ => True) (wR 21 ad (EM cs ad) mu)) (vn : Int32) (hin0 : 0 ≤ vn.toInt ∧ vn.toInt ≤ 7) : Met l yX12_copyRoute (wU yX12_copyRoute cX12_copyRoute 4 none) ({ frames := 0, cells := 0, slots := 0, locals := 0 }) (va_Pc [.ref (ad 0), .ref (ad 17), .int vn] (sz_P (dC, dI) vwCl (tyM cs) H)) (va_Qv (fun (xi : Nat → Nat → Int32) => okR loM hiM xi ∧ (True) ∧ (∀ k : Nat, 0 ≤ k → k < 17 → xi k = mu k)) (fun xi t => va_P (dC, dI) vwCl (wR 21 ad (EM cs ad) xi) t.heap) (va_A (wR 21 ad (EM cs ad) mu) H.size)) 0 0 (va_A (wR 21 ad (EM cs ad) mu) H.size) := by
  refine Met.ofW (cc := cX12_copyRoute) (maxL := 4) (ret := none) (by decide) rfl ?_
  intro p e s m args below meth c s₁ B hml hv
  obtain ⟨rfl, hh, hK, hz⟩ := hv
  have hx := B.exec
  have hb := B.bytes
  have hr := B.returns
  have hts := atoms_spec (ws := (wU yX12_copyRoute cX12_copyRoute 4 none)) B.pre
  have hown : s.vm.findClass RX12 = some m.cls := findClass_of_methodNamed B.named
  have hlocks := B.notSynchronized
  subst hh
  have hD := hD0.self (sz := s.heap.size)
  have hA : ∀ q : Nat, s.heap.size ≤ q → (va_A (wR 21 ad (EM cs ad) mu) s.heap.size) q := fun q h => Or.inr h
  have hS : va_S (va_A (wR 21 ad (EM cs ad) mu) s.heap.size) s.heap s.heap [] := va_S.rf
  have hl := lv_entry ([.ref (ad 0), .ref (ad 17), .int vn]) (n := 4) (Nat.le_of_ble_eq_true rfl)
  rw [lg_entry_eq]
  generalize (lg_sl ([.ref (ad 0), .ref (ad 17), .int vn]) ++ List.replicate (4 - (lg_sl ([.ref (ad 0), .ref (ad 17), .int vn])).length) Slot.unset).toArray = ls at hl ⊢
  have hl : lv_has ls 4 [(0, .ref (ad 0)), (1, .ref (ad 17)), (2, .int vn)] := hl
  refine lv_iconst (v := 0) hx hb dX12_copyRoute_0 (by decide) ?_
  refine lv_istore_n (lv' := [(3, .int 0), (0, .ref (ad 0)), (1, .ref (ad 17)), (2, .int vn)]) hx hb dX12_copyRoute_1 rfl hl (by decide) rfl (fun ls hl => ?_)
  have loop2 : ∀ (n2 : Nat) (v3_2 : Int32) (nu2_ : Nat → Nat → Int32) (H : Heap) (locs : List Loc) (ls : Array Slot), (7 + 1 - v3_2.toInt).toNat < n2 → (0 ≤ v3_2.toInt ∧ v3_2.toInt ≤ 7) → okR loM hiM nu2_ → va_P (dC, dI) vwCl (wR 21 ad (EM cs ad) nu2_) H → (∀ k : Nat, 0 ≤ k → k < 17 → nu2_ k = mu k) → va_S (va_A (wR 21 ad (EM cs ad) mu) s.heap.size) s.heap H locs → lv_has ls 4 [(3, .int v3_2), (0, .ref (ad 0)), (1, .ref (ad 17)), (2, .int vn)] → W p l e (headSpec (wU yX12_copyRoute cX12_copyRoute 4 none) ({ frames := 0, cells := 0, slots := 0, locals := 0 })).room s m ([.ref (ad 0), .ref (ad 17), .int vn] : List Value).toArray below meth c H locs 0 0 (MQ below (va_Qv (fun (xi : Nat → Nat → Int32) => okR loM hiM xi ∧ (True) ∧ (∀ k : Nat, 0 ≤ k → k < 17 → xi k = mu k)) (fun xi t => va_P (dC, dI) vwCl (wR 21 ad (EM cs ad) xi) t.heap) (va_A (wR 21 ad (EM cs ad) mu) s.heap.size)) ([.ref (ad 0), .ref (ad 17), .int vn] : List Value).toArray s 0 0 (va_A (wR 21 ad (EM cs ad) mu) s.heap.size)) (F0 m 2 ls []) := by
    intro n2
    induction n2 with
    | zero => intro v3_2 nu2_ H locs ls hm; exact absurd hm (Nat.not_lt_zero _)
    | succ n2 ih2 =>
      intro v3_2 nu2_ H locs ls hm h_v3_2 ok hP kq2_0 hS hl
      refine lv_iload_n hx hb dX12_copyRoute_2 rfl (lv_at hl 0 rfl) ?_
      refine lv_iload_n hx hb dX12_copyRoute_3 rfl (lv_at hl 3 rfl) ?_
      refine lv_icmp_ge (tgt := 22) hx hb dX12_copyRoute_4 (by decide) (fun c_1 => ?_) (fun c_1 => ?_)
      · have c_1 : vn.toInt ≤ v3_2.toInt := il_le c_1
        exact W.vret hx hb hr (fun t ht hW => ⟨⟨nu2_, rfl, ⟨ok, trivial, kq2_0⟩, by first | (subst ht; exact hP) | (rw [ht]; exact hP) | (show va_P (dC, dI) vwCl (wR 21 ad (EM cs ad) nu2_) t.heap; rw [ht]; exact hP)⟩, hS.F ht⟩) hS.2.2 dX12_copyRoute_22
      · have c_1 : v3_2.toInt < vn.toInt := il_nle c_1
        refine lv_aload_n hx hb dX12_copyRoute_7 rfl (lv_at hl 2 rfl) ?_
        refine lv_iload_n hx hb dX12_copyRoute_8 rfl (lv_at hl 0 rfl) ?_
        refine lv_aload_n hx hb dX12_copyRoute_9 rfl (lv_at hl 1 rfl) ?_
        refine va_get (D := (dC, dI)) (ci := 12) (v := .ref (ad 16)) (C := RX12) (T := TX12) (N := 46) hx hb hts inG12 hown hK hP 0 (gM_0 cs ad nu2_) rfl 26 (by decide) (hts _ (List.mem_cons_of_mem _ mw_5_67)) (fun _ h9 => h9) rfl dX12_copyRoute_10 ?_
        refine lv_iload_n hx hb dX12_copyRoute_13 rfl (lv_at hl 0 rfl) ?_
        refine va_iald hx hb hK hP 16 0 (gM_16 cs ad nu2_) rfl (show vp_in v3_2 7 from vi_of (by omega) (by omega)) dX12_copyRoute_14 ?_
        refine lv_topi (fun y2 ey2 => ?_)
        have by2 : y2.toInt = (nu2_ 16 v3_2.toNatClampNeg).toInt := congrArg Int32.toInt ey2
        have gy2 : 0 ≤ y2.toInt ∧ y2.toInt ≤ 6 := by rw [ey2]; exact rM_16_s ok v3_2.toNatClampNeg
        refine va_iast hx hb hK hP (wR_D nu2_ hD) hS 17 0 (gM_17 cs ad nu2_) rfl (show vp_in v3_2 7 from vi_of (by omega) (by omega)) dX12_copyRoute_15 (fun H locs hP _ hS => ?_)
        refine wr_gen (upd (nu2_ 17) v3_2.toNatClampNeg y2) hP (rfl) (fun nu3 hn3 hP => ?_)
        have ok := tM_17_s ok v3_2.toNatClampNeg hn3
        have ez4 : y2 = nu3 16 v3_2.toNatClampNeg := ey2.trans (congrFun (up_k hn3 (by decide)) v3_2.toNatClampNeg).symm
        have kp5 : ∀ k : Nat, 0 ≤ k → k < 17 → nu3 k = mu k := fun k h1 h2 => (up_k hn3 (ne_hi (by decide) h2).symm).trans (kq2_0 k h1 h2)
        refine lv_iinc (v := (v3_2 + 1)) (lv' := [(3, .int (v3_2 + 1)), (0, .ref (ad 0)), (1, .ref (ad 17)), (2, .int vn)]) hx hb dX12_copyRoute_16 hl (k := 0) rfl rfl (by decide) rfl (fun ls hl => ?_)
        refine loc_gen (P := fun w9 => lv_has ls 4 [(3, .int w9), (0, .ref (ad 0)), (1, .ref (ad 17)), (2, .int vn)]) (v3_2 + 1) hl (fun w6 hw6 hl => ?_)
        have hl : lv_has ls 4 [(3, .int w6), (0, .ref (ad 0)), (1, .ref (ad 17)), (2, .int vn)] := hl
        have aw6 : w6.toInt = v3_2.toInt + 1 := by rw [← hw6]; exact tI_add (rfl : v3_2.toInt = _) (rfl : (1 : Int32).toInt = 1) (by omega) (by omega)
        refine lv_goto (tgt := 2) hx hb dX12_copyRoute_19 (by decide) ?_
        exact ih2 (w6) nu3 _ _ _ (by omega) (by exact ⟨by omega, by omega⟩)  ok hP  kp5 hS (lv_sub hl [0, 1, 2, 3] rfl)
  exact loop2 ((7 + 1 - (0 : Int32).toInt).toNat + 1) (0) mu _ _ _ (Nat.lt_succ_self _) (by have h80 : (0 : Int32).toInt = 0 := rfl; exact ⟨by omega, by omega⟩)  ok hP  (fun _ _ _ => rfl) hS hl
set_option maxHeartbeats 4000000 in
set_option maxRecDepth 100000 in
/-- sm_copyRoute18 -/
theorem sm_copyRoute18 (l : Launch) (dC : Nat → ClassId) (dI : Nat → Nat → Nat) (cs : Nat → ClassId) (ad : Nat → Nat) (mu : Nat → Nat → Int32) (ok : okR loM hiM mu) (H : Heap) (hP : va_P (dC, dI) vwCl (wR 21 ad (EM cs ad) mu) H) (hD0 : va_D (fun _ => True) (wR 21 ad (EM cs ad) mu)) (vn : Int32) (hin0 : 0 ≤ vn.toInt ∧ vn.toInt ≤ 7) : Met l yX12_copyRoute (wU yX12_copyRoute cX12_copyRoute 4 none) ({ frames := 0, cells := 0, slots := 0, locals := 0 }) (va_Pc [.ref (ad 0), .ref (ad 18), .int vn] (sz_P (dC, dI) vwCl (tyM cs) H)) (va_Qv (fun (xi : Nat → Nat → Int32) => okR loM hiM xi ∧ (True) ∧ (∀ k : Nat, 0 ≤ k → k < 17 → xi k = mu k)) (fun xi t => va_P (dC, dI) vwCl (wR 21 ad (EM cs ad) xi) t.heap) (va_A (wR 21 ad (EM cs ad) mu) H.size)) 0 0 (va_A (wR 21 ad (EM cs ad) mu) H.size) := by
  refine Met.ofW (cc := cX12_copyRoute) (maxL := 4) (ret := none) (by decide) rfl ?_
  intro p e s m args below meth c s₁ B hml hv
  obtain ⟨rfl, hh, hK, hz⟩ := hv
  have hx := B.exec
  have hb := B.bytes
  have hr := B.returns
  have hts := atoms_spec (ws := (wU yX12_copyRoute cX12_copyRoute 4 none)) B.pre
  have hown : s.vm.findClass RX12 = some m.cls := findClass_of_methodNamed B.named
  have hlocks := B.notSynchronized
  subst hh
  have hD := hD0.self (sz := s.heap.size)
  have hA : ∀ q : Nat, s.heap.size ≤ q → (va_A (wR 21 ad (EM cs ad) mu) s.heap.size) q := fun q h => Or.inr h
  have hS : va_S (va_A (wR 21 ad (EM cs ad) mu) s.heap.size) s.heap s.heap [] := va_S.rf
  have hl := lv_entry ([.ref (ad 0), .ref (ad 18), .int vn]) (n := 4) (Nat.le_of_ble_eq_true rfl)
  rw [lg_entry_eq]
  generalize (lg_sl ([.ref (ad 0), .ref (ad 18), .int vn]) ++ List.replicate (4 - (lg_sl ([.ref (ad 0), .ref (ad 18), .int vn])).length) Slot.unset).toArray = ls at hl ⊢
  have hl : lv_has ls 4 [(0, .ref (ad 0)), (1, .ref (ad 18)), (2, .int vn)] := hl
  refine lv_iconst (v := 0) hx hb dX12_copyRoute_0 (by decide) ?_
  refine lv_istore_n (lv' := [(3, .int 0), (0, .ref (ad 0)), (1, .ref (ad 18)), (2, .int vn)]) hx hb dX12_copyRoute_1 rfl hl (by decide) rfl (fun ls hl => ?_)
  have loop2 : ∀ (n2 : Nat) (v3_2 : Int32) (nu2_ : Nat → Nat → Int32) (H : Heap) (locs : List Loc) (ls : Array Slot), (7 + 1 - v3_2.toInt).toNat < n2 → (0 ≤ v3_2.toInt ∧ v3_2.toInt ≤ 7) → okR loM hiM nu2_ → va_P (dC, dI) vwCl (wR 21 ad (EM cs ad) nu2_) H → (∀ k : Nat, 0 ≤ k → k < 17 → nu2_ k = mu k) → va_S (va_A (wR 21 ad (EM cs ad) mu) s.heap.size) s.heap H locs → lv_has ls 4 [(3, .int v3_2), (0, .ref (ad 0)), (1, .ref (ad 18)), (2, .int vn)] → W p l e (headSpec (wU yX12_copyRoute cX12_copyRoute 4 none) ({ frames := 0, cells := 0, slots := 0, locals := 0 })).room s m ([.ref (ad 0), .ref (ad 18), .int vn] : List Value).toArray below meth c H locs 0 0 (MQ below (va_Qv (fun (xi : Nat → Nat → Int32) => okR loM hiM xi ∧ (True) ∧ (∀ k : Nat, 0 ≤ k → k < 17 → xi k = mu k)) (fun xi t => va_P (dC, dI) vwCl (wR 21 ad (EM cs ad) xi) t.heap) (va_A (wR 21 ad (EM cs ad) mu) s.heap.size)) ([.ref (ad 0), .ref (ad 18), .int vn] : List Value).toArray s 0 0 (va_A (wR 21 ad (EM cs ad) mu) s.heap.size)) (F0 m 2 ls []) := by
    intro n2
    induction n2 with
    | zero => intro v3_2 nu2_ H locs ls hm; exact absurd hm (Nat.not_lt_zero _)
    | succ n2 ih2 =>
      intro v3_2 nu2_ H locs ls hm h_v3_2 ok hP kq2_0 hS hl
      refine lv_iload_n hx hb dX12_copyRoute_2 rfl (lv_at hl 0 rfl) ?_
      refine lv_iload_n hx hb dX12_copyRoute_3 rfl (lv_at hl 3 rfl) ?_
      refine lv_icmp_ge (tgt := 22) hx hb dX12_copyRoute_4 (by decide) (fun c_1 => ?_) (fun c_1 => ?_)
      · have c_1 : vn.toInt ≤ v3_2.toInt := il_le c_1
        exact W.vret hx hb hr (fun t ht hW => ⟨⟨nu2_, rfl, ⟨ok, trivial, kq2_0⟩, by first | (subst ht; exact hP) | (rw [ht]; exact hP) | (show va_P (dC, dI) vwCl (wR 21 ad (EM cs ad) nu2_) t.heap; rw [ht]; exact hP)⟩, hS.F ht⟩) hS.2.2 dX12_copyRoute_22
      · have c_1 : v3_2.toInt < vn.toInt := il_nle c_1
        refine lv_aload_n hx hb dX12_copyRoute_7 rfl (lv_at hl 2 rfl) ?_
        refine lv_iload_n hx hb dX12_copyRoute_8 rfl (lv_at hl 0 rfl) ?_
        refine lv_aload_n hx hb dX12_copyRoute_9 rfl (lv_at hl 1 rfl) ?_
        refine va_get (D := (dC, dI)) (ci := 12) (v := .ref (ad 16)) (C := RX12) (T := TX12) (N := 46) hx hb hts inG12 hown hK hP 0 (gM_0 cs ad nu2_) rfl 26 (by decide) (hts _ (List.mem_cons_of_mem _ mw_5_67)) (fun _ h9 => h9) rfl dX12_copyRoute_10 ?_
        refine lv_iload_n hx hb dX12_copyRoute_13 rfl (lv_at hl 0 rfl) ?_
        refine va_iald hx hb hK hP 16 0 (gM_16 cs ad nu2_) rfl (show vp_in v3_2 7 from vi_of (by omega) (by omega)) dX12_copyRoute_14 ?_
        refine lv_topi (fun y2 ey2 => ?_)
        have by2 : y2.toInt = (nu2_ 16 v3_2.toNatClampNeg).toInt := congrArg Int32.toInt ey2
        have gy2 : 0 ≤ y2.toInt ∧ y2.toInt ≤ 6 := by rw [ey2]; exact rM_16_s ok v3_2.toNatClampNeg
        refine va_iast hx hb hK hP (wR_D nu2_ hD) hS 18 0 (gM_18 cs ad nu2_) rfl (show vp_in v3_2 7 from vi_of (by omega) (by omega)) dX12_copyRoute_15 (fun H locs hP _ hS => ?_)
        refine wr_gen (upd (nu2_ 18) v3_2.toNatClampNeg y2) hP (rfl) (fun nu3 hn3 hP => ?_)
        have ok := tM_18_s ok v3_2.toNatClampNeg hn3
        have ez4 : y2 = nu3 16 v3_2.toNatClampNeg := ey2.trans (congrFun (up_k hn3 (by decide)) v3_2.toNatClampNeg).symm
        have kp5 : ∀ k : Nat, 0 ≤ k → k < 17 → nu3 k = mu k := fun k h1 h2 => (up_k hn3 (ne_hi (by decide) h2).symm).trans (kq2_0 k h1 h2)
        refine lv_iinc (v := (v3_2 + 1)) (lv' := [(3, .int (v3_2 + 1)), (0, .ref (ad 0)), (1, .ref (ad 18)), (2, .int vn)]) hx hb dX12_copyRoute_16 hl (k := 0) rfl rfl (by decide) rfl (fun ls hl => ?_)
        refine loc_gen (P := fun w9 => lv_has ls 4 [(3, .int w9), (0, .ref (ad 0)), (1, .ref (ad 18)), (2, .int vn)]) (v3_2 + 1) hl (fun w6 hw6 hl => ?_)
        have hl : lv_has ls 4 [(3, .int w6), (0, .ref (ad 0)), (1, .ref (ad 18)), (2, .int vn)] := hl
        have aw6 : w6.toInt = v3_2.toInt + 1 := by rw [← hw6]; exact tI_add (rfl : v3_2.toInt = _) (rfl : (1 : Int32).toInt = 1) (by omega) (by omega)
        refine lv_goto (tgt := 2) hx hb dX12_copyRoute_19 (by decide) ?_
        exact ih2 (w6) nu3 _ _ _ (by omega) (by exact ⟨by omega, by omega⟩)  ok hP  kp5 hS (lv_sub hl [0, 1, 2, 3] rfl)
  exact loop2 ((7 + 1 - (0 : Int32).toInt).toNat + 1) (0) mu _ _ _ (Nat.lt_succ_self _) (by have h80 : (0 : Int32).toInt = 0 := rfl; exact ⟨by omega, by omega⟩)  ok hP  (fun _ _ _ => rfl) hS hl
set_option maxHeartbeats 4000000 in
set_option maxRecDepth 100000 in
/-- sm_meetRoute -/
theorem sm_meetRoute (l : Launch) (dC : Nat → ClassId) (dI : Nat → Nat → Nat) (cs : Nat → ClassId) (ad : Nat → Nat) (mu : Nat → Nat → Int32) (ok : okR loM hiM mu) (H : Heap) (hP : va_P (dC, dI) vwCl (wR 21 ad (EM cs ad) mu) H) (hD0 : va_D (fun _ => True) (wR 21 ad (EM cs ad) mu)) (vn : Int32) (vs : Int32) (vp : Int32) (hin0 : 0 ≤ vn.toInt ∧ vn.toInt ≤ 7) (hin1 : ((mu 0 39).toInt = -9 ∨ (0 ≤ (mu 0 39).toInt ∧ (mu 0 39).toInt ≤ 3)) ∧ ((mu 0 33).toInt = 0 ∨ (mu 0 35).toInt ≤ 7)) : Met l yX12_meetRoute (wU yX12_meetRoute cX12_meetRoute 6 none) ({ frames := 2, cells := 0, slots := 0, locals := 45 }) (va_Pc [.ref (ad 0), .int vn, .int vs, .int vp] (sz_P (dC, dI) vwCl (tyM cs) H)) (va_Qv (fun (xi : Nat → Nat → Int32) => okR loM hiM xi ∧ (((xi 0 39).toInt = -9 ∨ (0 ≤ (xi 0 39).toInt ∧ (xi 0 39).toInt ≤ 3)) ∧ ((xi 0 33).toInt = 0 ∨ (xi 0 35).toInt ≤ 7)) ∧ True) (fun xi t => va_P (dC, dI) vwCl (wR 21 ad (EM cs ad) xi) t.heap) (va_A (wR 21 ad (EM cs ad) mu) H.size)) 0 0 (va_A (wR 21 ad (EM cs ad) mu) H.size) := by
  refine Met.ofW (cc := cX12_meetRoute) (maxL := 6) (ret := none) (by decide) rfl ?_
  intro p e s m args below meth c s₁ B hml hv
  obtain ⟨rfl, hh, hK, hz⟩ := hv
  have hx := B.exec
  have hb := B.bytes
  have hr := B.returns
  have hts := atoms_spec (ws := (wU yX12_meetRoute cX12_meetRoute 6 none)) B.pre
  have hown : s.vm.findClass RX12 = some m.cls := findClass_of_methodNamed B.named
  have hlocks := B.notSynchronized
  subst hh
  have hD := hD0.self (sz := s.heap.size)
  have hA : ∀ q : Nat, s.heap.size ≤ q → (va_A (wR 21 ad (EM cs ad) mu) s.heap.size) q := fun q h => Or.inr h
  have hS : va_S (va_A (wR 21 ad (EM cs ad) mu) s.heap.size) s.heap s.heap [] := va_S.rf
  have hl := lv_entry ([.ref (ad 0), .int vn, .int vs, .int vp]) (n := 6) (Nat.le_of_ble_eq_true rfl)
  rw [lg_entry_eq]
  generalize (lg_sl ([.ref (ad 0), .int vn, .int vs, .int vp]) ++ List.replicate (6 - (lg_sl ([.ref (ad 0), .int vn, .int vs, .int vp])).length) Slot.unset).toArray = ls at hl ⊢
  have hl : lv_has ls 6 [(0, .ref (ad 0)), (1, .int vn), (2, .int vs), (3, .int vp)] := hl
  obtain ⟨y1, ey1⟩ : ∃ z : Int32, z = mu 0 39 := ⟨_, rfl⟩
  have by1 : y1.toInt = (mu 0 39).toInt := congrArg Int32.toInt ey1
  have gy1 : -9 ≤ y1.toInt ∧ y1.toInt ≤ 3 := by rw [ey1]; exact rM_0_39 ok
  obtain ⟨y2, ey2⟩ : ∃ z : Int32, z = mu 0 33 := ⟨_, rfl⟩
  have by2 : y2.toInt = (mu 0 33).toInt := congrArg Int32.toInt ey2
  obtain ⟨y3, ey3⟩ : ∃ z : Int32, z = mu 0 35 := ⟨_, rfl⟩
  have by3 : y3.toInt = (mu 0 35).toInt := congrArg Int32.toInt ey3
  refine lv_aload_n hx hb dX12_meetRoute_0 rfl (lv_at hl 0 rfl) ?_
  refine lv_dup hx hb dX12_meetRoute_1 rfl ?_
  refine va_get (D := (dC, dI)) (ci := 12) (v := .int (mu 0 30)) (C := RX12) (T := TX12) (N := 46) hx hb hts inG12 hown hK hP 0 (gM_0 cs ad mu) rfl 30 (by decide) (hts _ (List.mem_cons_of_mem _ mw_5_71)) (fun _ h9 => h9) rfl dX12_meetRoute_2 ?_
  refine lv_topi (fun y4 ey4 => ?_)
  have by4 : y4.toInt = (mu 0 30).toInt := congrArg Int32.toInt ey4
  refine lv_iconst (v := 1) hx hb dX12_meetRoute_5 (by decide) ?_
  refine lv_iadd hx hb dX12_meetRoute_6 ?_
  refine lv_topi (fun t5 et5 => ?_)
  refine va_put (D := (dC, dI)) (ci := 12) (v := .int t5) (ty := .int) (C := RX12) (T := TX12) (N := 46) hx hb hts inG12 tyX12 tyX12_ok nmX12 hown hK hP (wR_D mu hD) hS 0 (gM_0 cs ad mu) rfl 30 (by decide) (hts _ (List.mem_cons_of_mem _ mw_5_71)) (fun _ h9 => h9) rfl (by decide +kernel) rfl rfl (Nat.le_of_ble_eq_true rfl) dX12_meetRoute_7 (fun H locs hP _ hS => ?_)
  simp only [List.set_cons_succ, List.set_cons_zero] at hP
  refine wr_gen (upd (mu 0) 30 t5) hP ((hM_0_30 cs ad _ _)) (fun nu6 hn6 hP => ?_)
  have ok := tM_0_30 ok hn6
  have ez7 : y1 = nu6 0 39 := ey1.trans (up_f hn6 (by decide)).symm
  have ez8 : y2 = nu6 0 33 := ey2.trans (up_f hn6 (by decide)).symm
  have ez9 : y3 = nu6 0 35 := ey3.trans (up_f hn6 (by decide)).symm
  have ez10 : t5 = nu6 0 30 := up_v hn6
  have join53_10 : ∀ (nj53_10 : Nat → Nat → Int32) (H : Heap) (locs : List Loc) (ls : Array Slot), (((nj53_10 0 39).toInt = -9 ∨ (0 ≤ (nj53_10 0 39).toInt ∧ (nj53_10 0 39).toInt ≤ 3)) ∧ ((nj53_10 0 33).toInt = 0 ∨ (nj53_10 0 35).toInt ≤ 7)) → okR loM hiM nj53_10 → va_P (dC, dI) vwCl (wR 21 ad (EM cs ad) nj53_10) H → va_S (va_A (wR 21 ad (EM cs ad) mu) s.heap.size) s.heap H locs → lv_has ls 6 [(0, .ref (ad 0)), (1, .int vn), (2, .int vs), (3, .int vp)] → W p l e (headSpec (wU yX12_meetRoute cX12_meetRoute 6 none) ({ frames := 2, cells := 0, slots := 0, locals := 45 })).room s m ([.ref (ad 0), .int vn, .int vs, .int vp] : List Value).toArray below meth c H locs 0 0 (MQ below (va_Qv (fun (xi : Nat → Nat → Int32) => okR loM hiM xi ∧ (((xi 0 39).toInt = -9 ∨ (0 ≤ (xi 0 39).toInt ∧ (xi 0 39).toInt ≤ 3)) ∧ ((xi 0 33).toInt = 0 ∨ (xi 0 35).toInt ≤ 7)) ∧ True) (fun xi t => va_P (dC, dI) vwCl (wR 21 ad (EM cs ad) xi) t.heap) (va_A (wR 21 ad (EM cs ad) mu) s.heap.size)) ([.ref (ad 0), .int vn, .int vs, .int vp] : List Value).toArray s 0 0 (va_A (wR 21 ad (EM cs ad) mu) s.heap.size)) (F0 m 53 ls []) := by
    intro  nj53_10 H locs ls hj53_10_0 ok hP hS hl
    obtain ⟨y11, ey11⟩ : ∃ z : Int32, z = nj53_10 0 39 := ⟨_, rfl⟩
    have by11 : y11.toInt = (nj53_10 0 39).toInt := congrArg Int32.toInt ey11
    have gy11 : -9 ≤ y11.toInt ∧ y11.toInt ≤ 3 := by rw [ey11]; exact rM_0_39 ok
    obtain ⟨y12, ey12⟩ : ∃ z : Int32, z = nj53_10 0 33 := ⟨_, rfl⟩
    have by12 : y12.toInt = (nj53_10 0 33).toInt := congrArg Int32.toInt ey12
    obtain ⟨y13, ey13⟩ : ∃ z : Int32, z = nj53_10 0 35 := ⟨_, rfl⟩
    have by13 : y13.toInt = (nj53_10 0 35).toInt := congrArg Int32.toInt ey13
    refine lv_aload_n hx hb dX12_meetRoute_53 rfl (lv_at hl 0 rfl) ?_
    refine va_get (D := (dC, dI)) (ci := 12) (v := .int (nj53_10 0 39)) (C := RX12) (T := TX12) (N := 46) hx hb hts inG12 hown hK hP 0 (gM_0 cs ad nj53_10) rfl 39 (by decide) (hts _ (List.mem_cons_of_mem _ mw_5_80)) (fun _ h9 => h9) rfl dX12_meetRoute_54 ?_
    refine lq_i y11 ey11.symm ?_
    refine lv_bipush (v := (-9)) hx hb dX12_meetRoute_57 (by decide) ?_
    refine lv_icmp_ne (tgt := 63) hx hb dX12_meetRoute_59 (by decide) (fun c_14 => ?_) (fun c_14 => ?_)
    · have c_14 : ¬ y11.toInt = -9 := il_ne c_14
      have join91_63 : ∀ (j4_91_63 : Int32) (nj91_63 : Nat → Nat → Int32) (H : Heap) (locs : List Loc) (ls : Array Slot), (((nj91_63 0 39).toInt = -9 ∨ (0 ≤ (nj91_63 0 39).toInt ∧ (nj91_63 0 39).toInt ≤ 3)) ∧ ((nj91_63 0 33).toInt = 0 ∨ (nj91_63 0 35).toInt ≤ 7)) → (¬ (nj91_63 0 39).toInt = -9) → okR loM hiM nj91_63 → va_P (dC, dI) vwCl (wR 21 ad (EM cs ad) nj91_63) H → va_S (va_A (wR 21 ad (EM cs ad) mu) s.heap.size) s.heap H locs → lv_has ls 6 [(0, .ref (ad 0)), (1, .int vn), (2, .int vs), (3, .int vp), (4, .int j4_91_63)] → W p l e (headSpec (wU yX12_meetRoute cX12_meetRoute 6 none) ({ frames := 2, cells := 0, slots := 0, locals := 45 })).room s m ([.ref (ad 0), .int vn, .int vs, .int vp] : List Value).toArray below meth c H locs 0 0 (MQ below (va_Qv (fun (xi : Nat → Nat → Int32) => okR loM hiM xi ∧ (((xi 0 39).toInt = -9 ∨ (0 ≤ (xi 0 39).toInt ∧ (xi 0 39).toInt ≤ 3)) ∧ ((xi 0 33).toInt = 0 ∨ (xi 0 35).toInt ≤ 7)) ∧ True) (fun xi t => va_P (dC, dI) vwCl (wR 21 ad (EM cs ad) xi) t.heap) (va_A (wR 21 ad (EM cs ad) mu) s.heap.size)) ([.ref (ad 0), .int vn, .int vs, .int vp] : List Value).toArray s 0 0 (va_A (wR 21 ad (EM cs ad) mu) s.heap.size)) (F0 m 91 ls []) := by
        intro j4_91_63 nj91_63 H locs ls hj91_63_0 hj91_63_1 ok hP hS hl
        obtain ⟨y15, ey15⟩ : ∃ z : Int32, z = nj91_63 0 39 := ⟨_, rfl⟩
        have by15 : y15.toInt = (nj91_63 0 39).toInt := congrArg Int32.toInt ey15
        have gy15 : -9 ≤ y15.toInt ∧ y15.toInt ≤ 3 := by rw [ey15]; exact rM_0_39 ok
        obtain ⟨y16, ey16⟩ : ∃ z : Int32, z = nj91_63 0 33 := ⟨_, rfl⟩
        have by16 : y16.toInt = (nj91_63 0 33).toInt := congrArg Int32.toInt ey16
        obtain ⟨y17, ey17⟩ : ∃ z : Int32, z = nj91_63 0 35 := ⟨_, rfl⟩
        have by17 : y17.toInt = (nj91_63 0 35).toInt := congrArg Int32.toInt ey17
        have join115_91 : ∀ (j5_115_91 : Int32) (nj115_91 : Nat → Nat → Int32) (H : Heap) (locs : List Loc) (ls : Array Slot), (((nj115_91 0 39).toInt = -9 ∨ (0 ≤ (nj115_91 0 39).toInt ∧ (nj115_91 0 39).toInt ≤ 3)) ∧ ((nj115_91 0 33).toInt = 0 ∨ (nj115_91 0 35).toInt ≤ 7)) → (¬ (nj115_91 0 39).toInt = -9) → okR loM hiM nj115_91 → va_P (dC, dI) vwCl (wR 21 ad (EM cs ad) nj115_91) H → va_S (va_A (wR 21 ad (EM cs ad) mu) s.heap.size) s.heap H locs → lv_has ls 6 [(0, .ref (ad 0)), (1, .int vn), (2, .int vs), (3, .int vp), (4, .int j4_91_63), (5, .int j5_115_91)] → W p l e (headSpec (wU yX12_meetRoute cX12_meetRoute 6 none) ({ frames := 2, cells := 0, slots := 0, locals := 45 })).room s m ([.ref (ad 0), .int vn, .int vs, .int vp] : List Value).toArray below meth c H locs 0 0 (MQ below (va_Qv (fun (xi : Nat → Nat → Int32) => okR loM hiM xi ∧ (((xi 0 39).toInt = -9 ∨ (0 ≤ (xi 0 39).toInt ∧ (xi 0 39).toInt ≤ 3)) ∧ ((xi 0 33).toInt = 0 ∨ (xi 0 35).toInt ≤ 7)) ∧ True) (fun xi t => va_P (dC, dI) vwCl (wR 21 ad (EM cs ad) xi) t.heap) (va_A (wR 21 ad (EM cs ad) mu) s.heap.size)) ([.ref (ad 0), .int vn, .int vs, .int vp] : List Value).toArray s 0 0 (va_A (wR 21 ad (EM cs ad) mu) s.heap.size)) (F0 m 115 ls []) := by
          intro j5_115_91 nj115_91 H locs ls hj115_91_0 hj115_91_1 ok hP hS hl
          obtain ⟨y18, ey18⟩ : ∃ z : Int32, z = nj115_91 0 39 := ⟨_, rfl⟩
          have by18 : y18.toInt = (nj115_91 0 39).toInt := congrArg Int32.toInt ey18
          have gy18 : -9 ≤ y18.toInt ∧ y18.toInt ≤ 3 := by rw [ey18]; exact rM_0_39 ok
          obtain ⟨y19, ey19⟩ : ∃ z : Int32, z = nj115_91 0 33 := ⟨_, rfl⟩
          have by19 : y19.toInt = (nj115_91 0 33).toInt := congrArg Int32.toInt ey19
          obtain ⟨y20, ey20⟩ : ∃ z : Int32, z = nj115_91 0 35 := ⟨_, rfl⟩
          have by20 : y20.toInt = (nj115_91 0 35).toInt := congrArg Int32.toInt ey20
          have join137_115 : ∀ (nj137_115 : Nat → Nat → Int32) (H : Heap) (locs : List Loc) (ls : Array Slot), (((nj137_115 0 39).toInt = -9 ∨ (0 ≤ (nj137_115 0 39).toInt ∧ (nj137_115 0 39).toInt ≤ 3)) ∧ ((nj137_115 0 33).toInt = 0 ∨ (nj137_115 0 35).toInt ≤ 7)) → (¬ (nj137_115 0 39).toInt = -9) → okR loM hiM nj137_115 → va_P (dC, dI) vwCl (wR 21 ad (EM cs ad) nj137_115) H → va_S (va_A (wR 21 ad (EM cs ad) mu) s.heap.size) s.heap H locs → lv_has ls 6 [(0, .ref (ad 0)), (1, .int vn), (2, .int vs), (3, .int vp), (4, .int j4_91_63), (5, .int j5_115_91)] → W p l e (headSpec (wU yX12_meetRoute cX12_meetRoute 6 none) ({ frames := 2, cells := 0, slots := 0, locals := 45 })).room s m ([.ref (ad 0), .int vn, .int vs, .int vp] : List Value).toArray below meth c H locs 0 0 (MQ below (va_Qv (fun (xi : Nat → Nat → Int32) => okR loM hiM xi ∧ (((xi 0 39).toInt = -9 ∨ (0 ≤ (xi 0 39).toInt ∧ (xi 0 39).toInt ≤ 3)) ∧ ((xi 0 33).toInt = 0 ∨ (xi 0 35).toInt ≤ 7)) ∧ True) (fun xi t => va_P (dC, dI) vwCl (wR 21 ad (EM cs ad) xi) t.heap) (va_A (wR 21 ad (EM cs ad) mu) s.heap.size)) ([.ref (ad 0), .int vn, .int vs, .int vp] : List Value).toArray s 0 0 (va_A (wR 21 ad (EM cs ad) mu) s.heap.size)) (F0 m 137 ls []) := by
            intro  nj137_115 H locs ls hj137_115_0 hj137_115_1 ok hP hS hl
            obtain ⟨y21, ey21⟩ : ∃ z : Int32, z = nj137_115 0 39 := ⟨_, rfl⟩
            have by21 : y21.toInt = (nj137_115 0 39).toInt := congrArg Int32.toInt ey21
            have gy21 : -9 ≤ y21.toInt ∧ y21.toInt ≤ 3 := by rw [ey21]; exact rM_0_39 ok
            obtain ⟨y22, ey22⟩ : ∃ z : Int32, z = nj137_115 0 33 := ⟨_, rfl⟩
            have by22 : y22.toInt = (nj137_115 0 33).toInt := congrArg Int32.toInt ey22
            obtain ⟨y23, ey23⟩ : ∃ z : Int32, z = nj137_115 0 35 := ⟨_, rfl⟩
            have by23 : y23.toInt = (nj137_115 0 35).toInt := congrArg Int32.toInt ey23
            refine lv_aload_n hx hb dX12_meetRoute_137 rfl (lv_at hl 0 rfl) ?_
            refine lv_aload_n hx hb dX12_meetRoute_138 rfl (lv_at hl 0 rfl) ?_
            refine va_get (D := (dC, dI)) (ci := 12) (v := .int (nj137_115 0 39)) (C := RX12) (T := TX12) (N := 46) hx hb hts inG12 hown hK hP 0 (gM_0 cs ad nj137_115) rfl 39 (by decide) (hts _ (List.mem_cons_of_mem _ mw_5_80)) (fun _ h9 => h9) rfl dX12_meetRoute_139 ?_
            refine lq_i y21 ey21.symm ?_
            refine lv_iload hx hb dX12_meetRoute_142 (lv_at hl 4 rfl) ?_
            refine cr_i (va_runV (As := [.int y21, .int j4_91_63]) (rest := []) ⟨hx, hb, hml, hown, hts⟩ (sm_worthIn l dC dI cs ad nj137_115 ok H hP y21 j4_91_63 (by omega)) (cwV 2 hts (wU_V mw_6_126 mw_6_123 mw_6_125 mw_0_49 mw_1_13) rfl rfl rfl (by decide +kernel) ⟨Nat.le_of_ble_eq_true rfl, Nat.le_of_ble_eq_true rfl⟩) ⟨sz_c, va_recv hK hP (ci := 12) (q0 := 0) rfl (gM_0 cs ad nj137_115), sz_m hK hz⟩ rfl rfl hl.1 rfl (lv_room (Nat.le_of_ble_eq_true rfl)) dX12_meetRoute_144 ⟨Nat.zero_le _, Nat.zero_le _⟩) hS (fun r24 hw24 locs hS => ?_)
            refine lv_iload_n hx hb dX12_meetRoute_147 rfl (lv_at hl 3 rfl) ?_
            refine lv_icmp_lt (tgt := 214) hx hb dX12_meetRoute_148 (by decide) (fun c_25 => ?_) (fun c_25 => ?_)
            · have c_25 : r24.toInt < vp.toInt := il_lt c_25
              exact W.vret hx hb hr (fun t ht hW => ⟨⟨nj137_115, rfl, ⟨ok, (by have hb26 := congrArg Int32.toInt ey21; have hb27 := congrArg Int32.toInt ey22; have hb28 := congrArg Int32.toInt ey23; omega), trivial⟩, by first | (subst ht; exact hP) | (rw [ht]; exact hP) | (show va_P (dC, dI) vwCl (wR 21 ad (EM cs ad) nj137_115) t.heap; rw [ht]; exact hP)⟩, hS.F ht⟩) hS.2.2 dX12_meetRoute_214
            · have c_25 : vp.toInt ≤ r24.toInt := il_nlt c_25
              refine lv_aload_n hx hb dX12_meetRoute_151 rfl (lv_at hl 0 rfl) ?_
              refine lv_dup hx hb dX12_meetRoute_152 rfl ?_
              refine va_get (D := (dC, dI)) (ci := 12) (v := .int (nj137_115 0 33)) (C := RX12) (T := TX12) (N := 46) hx hb hts inG12 hown hK hP 0 (gM_0 cs ad nj137_115) rfl 33 (by decide) (hts _ (List.mem_cons_of_mem _ mw_5_74)) (fun _ h9 => h9) rfl dX12_meetRoute_153 ?_
              refine lq_i y22 ey22.symm ?_
              refine lv_iconst (v := 1) hx hb dX12_meetRoute_156 (by decide) ?_
              refine lv_iadd hx hb dX12_meetRoute_157 ?_
              refine lv_topi (fun t29 et29 => ?_)
              refine va_put (D := (dC, dI)) (ci := 12) (v := .int t29) (ty := .int) (C := RX12) (T := TX12) (N := 46) hx hb hts inG12 tyX12 tyX12_ok nmX12 hown hK hP (wR_D nj137_115 hD) hS 0 (gM_0 cs ad nj137_115) rfl 33 (by decide) (hts _ (List.mem_cons_of_mem _ mw_5_74)) (fun _ h9 => h9) rfl (by decide +kernel) rfl rfl (Nat.le_of_ble_eq_true rfl) dX12_meetRoute_158 (fun H locs hP _ hS => ?_)
              simp only [List.set_cons_succ, List.set_cons_zero] at hP
              refine wr_gen (upd (nj137_115 0) 33 t29) hP ((hM_0_33 cs ad _ _)) (fun nu30 hn30 hP => ?_)
              have ok := tM_0_33 ok hn30
              have ez31 : y21 = nu30 0 39 := ey21.trans (up_f hn30 (by decide)).symm
              have ez32 : y23 = nu30 0 35 := ey23.trans (up_f hn30 (by decide)).symm
              have ez33 : t29 = nu30 0 33 := up_v hn30
              refine lv_aload_n hx hb dX12_meetRoute_161 rfl (lv_at hl 0 rfl) ?_
              refine lv_dup hx hb dX12_meetRoute_162 rfl ?_
              refine va_get (D := (dC, dI)) (ci := 12) (v := .int (nu30 0 36)) (C := RX12) (T := TX12) (N := 46) hx hb hts inG12 hown hK hP 0 (gM_0 cs ad nu30) rfl 36 (by decide) (hts _ (List.mem_cons_of_mem _ mw_5_77)) (fun _ h9 => h9) rfl dX12_meetRoute_163 ?_
              refine lv_topi (fun y34 ey34 => ?_)
              have by34 : y34.toInt = (nu30 0 36).toInt := congrArg Int32.toInt ey34
              refine lv_iload_n hx hb dX12_meetRoute_166 rfl (lv_at hl 2 rfl) ?_
              refine lv_iand hx hb dX12_meetRoute_167 ?_
              refine lv_topi (fun t35 et35 => ?_)
              refine va_put (D := (dC, dI)) (ci := 12) (v := .int t35) (ty := .int) (C := RX12) (T := TX12) (N := 46) hx hb hts inG12 tyX12 tyX12_ok nmX12 hown hK hP (wR_D nu30 hD) hS 0 (gM_0 cs ad nu30) rfl 36 (by decide) (hts _ (List.mem_cons_of_mem _ mw_5_77)) (fun _ h9 => h9) rfl (by decide +kernel) rfl rfl (Nat.le_of_ble_eq_true rfl) dX12_meetRoute_168 (fun H locs hP _ hS => ?_)
              simp only [List.set_cons_succ, List.set_cons_zero] at hP
              refine wr_gen (upd (nu30 0) 36 t35) hP ((hM_0_36 cs ad _ _)) (fun nu36 hn36 hP => ?_)
              have ok := tM_0_36 ok hn36
              have ez37 : y21 = nu36 0 39 := ez31.trans (up_f hn36 (by decide)).symm
              have ez38 : y23 = nu36 0 35 := ez32.trans (up_f hn36 (by decide)).symm
              have ez39 : t29 = nu36 0 33 := ez33.trans (up_f hn36 (by decide)).symm
              have ez40 : t35 = nu36 0 36 := up_v hn36
              refine lv_iload_n hx hb dX12_meetRoute_171 rfl (lv_at hl 1 rfl) ?_
              refine lv_aload_n hx hb dX12_meetRoute_172 rfl (lv_at hl 0 rfl) ?_
              refine va_get (D := (dC, dI)) (ci := 12) (v := .int (nu36 0 35)) (C := RX12) (T := TX12) (N := 46) hx hb hts inG12 hown hK hP 0 (gM_0 cs ad nu36) rfl 35 (by decide) (hts _ (List.mem_cons_of_mem _ mw_5_76)) (fun _ h9 => h9) rfl dX12_meetRoute_173 ?_
              refine lq_i y23 ez38.symm ?_
              refine lv_icmp_lt (tgt := 195) hx hb dX12_meetRoute_176 (by decide) (fun c_41 => ?_) (fun c_41 => ?_)
              · have c_41 : vn.toInt < y23.toInt := il_lt c_41
                refine lv_aload_n hx hb dX12_meetRoute_195 rfl (lv_at hl 0 rfl) ?_
                refine lv_iload_n hx hb dX12_meetRoute_196 rfl (lv_at hl 3 rfl) ?_
                refine va_put (D := (dC, dI)) (ci := 12) (v := .int vp) (ty := .int) (C := RX12) (T := TX12) (N := 46) hx hb hts inG12 tyX12 tyX12_ok nmX12 hown hK hP (wR_D nu36 hD) hS 0 (gM_0 cs ad nu36) rfl 34 (by decide) (hts _ (List.mem_cons_of_mem _ mw_5_75)) (fun _ h9 => h9) rfl (by decide +kernel) rfl rfl (Nat.le_of_ble_eq_true rfl) dX12_meetRoute_197 (fun H locs hP _ hS => ?_)
                simp only [List.set_cons_succ, List.set_cons_zero] at hP
                refine wr_gen (upd (nu36 0) 34 vp) hP ((hM_0_34 cs ad _ _)) (fun nu42 hn42 hP => ?_)
                have ok := tM_0_34 ok hn42
                have ez43 : y21 = nu42 0 39 := ez37.trans (up_f hn42 (by decide)).symm
                have ez44 : y23 = nu42 0 35 := ez38.trans (up_f hn42 (by decide)).symm
                have ez45 : t29 = nu42 0 33 := ez39.trans (up_f hn42 (by decide)).symm
                have ez46 : t35 = nu42 0 36 := ez40.trans (up_f hn42 (by decide)).symm
                have ez47 : vp = nu42 0 34 := up_v hn42
                refine lv_aload_n hx hb dX12_meetRoute_200 rfl (lv_at hl 0 rfl) ?_
                refine lv_iload_n hx hb dX12_meetRoute_201 rfl (lv_at hl 1 rfl) ?_
                refine va_put (D := (dC, dI)) (ci := 12) (v := .int vn) (ty := .int) (C := RX12) (T := TX12) (N := 46) hx hb hts inG12 tyX12 tyX12_ok nmX12 hown hK hP (wR_D nu42 hD) hS 0 (gM_0 cs ad nu42) rfl 35 (by decide) (hts _ (List.mem_cons_of_mem _ mw_5_76)) (fun _ h9 => h9) rfl (by decide +kernel) rfl rfl (Nat.le_of_ble_eq_true rfl) dX12_meetRoute_202 (fun H locs hP _ hS => ?_)
                simp only [List.set_cons_succ, List.set_cons_zero] at hP
                refine wr_gen (upd (nu42 0) 35 vn) hP ((hM_0_35 cs ad _ _)) (fun nu48 hn48 hP => ?_)
                have ok := tM_0_35 ok hn48
                have ez49 : y21 = nu48 0 39 := ez43.trans (up_f hn48 (by decide)).symm
                have ez50 : t29 = nu48 0 33 := ez45.trans (up_f hn48 (by decide)).symm
                have ez51 : t35 = nu48 0 36 := ez46.trans (up_f hn48 (by decide)).symm
                have ez52 : vp = nu48 0 34 := ez47.trans (up_f hn48 (by decide)).symm
                have ez53 : vn = nu48 0 35 := up_v hn48
                refine lv_aload_n hx hb dX12_meetRoute_205 rfl (lv_at hl 0 rfl) ?_
                refine lv_aload_n hx hb dX12_meetRoute_206 rfl (lv_at hl 0 rfl) ?_
                refine va_get (D := (dC, dI)) (ci := 12) (v := .ref (ad 18)) (C := RX12) (T := TX12) (N := 46) hx hb hts inG12 hown hK hP 0 (gM_0 cs ad nu48) rfl 28 (by decide) (hts _ (List.mem_cons_of_mem _ mw_5_69)) (fun _ h9 => h9) rfl dX12_meetRoute_207 ?_
                refine lv_iload_n hx hb dX12_meetRoute_210 rfl (lv_at hl 1 rfl) ?_
                have hFc := fr_all (wR_D nu48 hD) hS hA
                refine va_callv (va_runV (As := [.ref (ad 18), .int vn]) (rest := []) ⟨hx, hb, hml, hown, hts⟩ (sm_copyRoute18 l dC dI cs ad nu48 ok H hP ((wR_D nu48 hD).weaken (fun _ _ _ _ => trivial)) vn (by omega)) (cwV 2 hts (wU_V mw_6_191 mw_6_188 mw_6_190 mw_0_57 mw_1_13) rfl rfl rfl (by decide +kernel) ⟨Nat.le_of_ble_eq_true rfl, Nat.le_of_ble_eq_true rfl⟩) ⟨sz_c, va_recv hK hP (ci := 12) (q0 := 0) rfl (gM_0 cs ad nu48), sz_m hK hz⟩ rfl rfl hl.1 rfl (lv_room (Nat.le_of_ble_eq_true rfl)) dX12_meetRoute_211 ⟨Nat.zero_le _, Nat.zero_le _⟩) hS (fun q _ h => hFc q h) hFc (fun xi54 t H54 locs ht hvm hw54 hB hz1 hk1 hS => ?_)
                have hP : va_P (dC, dI) vwCl (wR 21 ad (EM cs ad) xi54) H54 := by rw [← ht]; exact hB
                obtain ⟨ok, hw54, hkp54_0⟩ := hw54
                have ez55 : y21 = xi54 0 39 := ez49.trans (congrFun (hkp54_0 0 (by decide) (by decide)) 39).symm
                have ez56 : t29 = xi54 0 33 := ez50.trans (congrFun (hkp54_0 0 (by decide) (by decide)) 33).symm
                have ez57 : t35 = xi54 0 36 := ez51.trans (congrFun (hkp54_0 0 (by decide) (by decide)) 36).symm
                have ez58 : vp = xi54 0 34 := ez52.trans (congrFun (hkp54_0 0 (by decide) (by decide)) 34).symm
                have ez59 : vn = xi54 0 35 := ez53.trans (congrFun (hkp54_0 0 (by decide) (by decide)) 35).symm
                exact W.vret hx hb hr (fun t ht hW => ⟨⟨xi54, rfl, ⟨ok, (by have hb60 := congrArg Int32.toInt ez55; have hb61 := congrArg Int32.toInt ez56; have hb62 := congrArg Int32.toInt ez59; omega), trivial⟩, by first | (subst ht; exact hP) | (rw [ht]; exact hP) | (show va_P (dC, dI) vwCl (wR 21 ad (EM cs ad) xi54) t.heap; rw [ht]; exact hP)⟩, hS.F ht⟩) hS.2.2 dX12_meetRoute_214
              · have c_41 : y23.toInt ≤ vn.toInt := il_nlt c_41
                refine lv_iload_n hx hb dX12_meetRoute_179 rfl (lv_at hl 1 rfl) ?_
                refine lv_aload_n hx hb dX12_meetRoute_180 rfl (lv_at hl 0 rfl) ?_
                refine va_get (D := (dC, dI)) (ci := 12) (v := .int (nu36 0 35)) (C := RX12) (T := TX12) (N := 46) hx hb hts inG12 hown hK hP 0 (gM_0 cs ad nu36) rfl 35 (by decide) (hts _ (List.mem_cons_of_mem _ mw_5_76)) (fun _ h9 => h9) rfl dX12_meetRoute_181 ?_
                refine lq_i y23 ez38.symm ?_
                refine lv_icmp_ne (tgt := 214) hx hb dX12_meetRoute_184 (by decide) (fun c_63 => ?_) (fun c_63 => ?_)
                · have c_63 : ¬ vn.toInt = y23.toInt := il_ne c_63
                  exact W.vret hx hb hr (fun t ht hW => ⟨⟨nu36, rfl, ⟨ok, (by have hb64 := congrArg Int32.toInt ez37; have hb65 := congrArg Int32.toInt ez38; have hb66 := congrArg Int32.toInt ez39; omega), trivial⟩, by first | (subst ht; exact hP) | (rw [ht]; exact hP) | (show va_P (dC, dI) vwCl (wR 21 ad (EM cs ad) nu36) t.heap; rw [ht]; exact hP)⟩, hS.F ht⟩) hS.2.2 dX12_meetRoute_214
                · have c_63 : vn.toInt = y23.toInt := il_eq c_63
                  refine lv_iload_n hx hb dX12_meetRoute_187 rfl (lv_at hl 3 rfl) ?_
                  refine lv_aload_n hx hb dX12_meetRoute_188 rfl (lv_at hl 0 rfl) ?_
                  refine va_get (D := (dC, dI)) (ci := 12) (v := .int (nu36 0 34)) (C := RX12) (T := TX12) (N := 46) hx hb hts inG12 hown hK hP 0 (gM_0 cs ad nu36) rfl 34 (by decide) (hts _ (List.mem_cons_of_mem _ mw_5_75)) (fun _ h9 => h9) rfl dX12_meetRoute_189 ?_
                  refine lv_topi (fun y67 ey67 => ?_)
                  have by67 : y67.toInt = (nu36 0 34).toInt := congrArg Int32.toInt ey67
                  refine lv_icmp_ge (tgt := 214) hx hb dX12_meetRoute_192 (by decide) (fun c_68 => ?_) (fun c_68 => ?_)
                  · have c_68 : y67.toInt ≤ vp.toInt := il_le c_68
                    exact W.vret hx hb hr (fun t ht hW => ⟨⟨nu36, rfl, ⟨ok, (by have hb69 := congrArg Int32.toInt ez37; have hb70 := congrArg Int32.toInt ez38; have hb71 := congrArg Int32.toInt ez39; omega), trivial⟩, by first | (subst ht; exact hP) | (rw [ht]; exact hP) | (show va_P (dC, dI) vwCl (wR 21 ad (EM cs ad) nu36) t.heap; rw [ht]; exact hP)⟩, hS.F ht⟩) hS.2.2 dX12_meetRoute_214
                  · have c_68 : vp.toInt < y67.toInt := il_nle c_68
                    refine lv_aload_n hx hb dX12_meetRoute_195 rfl (lv_at hl 0 rfl) ?_
                    refine lv_iload_n hx hb dX12_meetRoute_196 rfl (lv_at hl 3 rfl) ?_
                    refine va_put (D := (dC, dI)) (ci := 12) (v := .int vp) (ty := .int) (C := RX12) (T := TX12) (N := 46) hx hb hts inG12 tyX12 tyX12_ok nmX12 hown hK hP (wR_D nu36 hD) hS 0 (gM_0 cs ad nu36) rfl 34 (by decide) (hts _ (List.mem_cons_of_mem _ mw_5_75)) (fun _ h9 => h9) rfl (by decide +kernel) rfl rfl (Nat.le_of_ble_eq_true rfl) dX12_meetRoute_197 (fun H locs hP _ hS => ?_)
                    simp only [List.set_cons_succ, List.set_cons_zero] at hP
                    refine wr_gen (upd (nu36 0) 34 vp) hP ((hM_0_34 cs ad _ _)) (fun nu72 hn72 hP => ?_)
                    have ok := tM_0_34 ok hn72
                    have ez73 : y21 = nu72 0 39 := ez37.trans (up_f hn72 (by decide)).symm
                    have ez74 : y23 = nu72 0 35 := ez38.trans (up_f hn72 (by decide)).symm
                    have ez75 : t29 = nu72 0 33 := ez39.trans (up_f hn72 (by decide)).symm
                    have ez76 : t35 = nu72 0 36 := ez40.trans (up_f hn72 (by decide)).symm
                    have ez77 : vp = nu72 0 34 := up_v hn72
                    refine lv_aload_n hx hb dX12_meetRoute_200 rfl (lv_at hl 0 rfl) ?_
                    refine lv_iload_n hx hb dX12_meetRoute_201 rfl (lv_at hl 1 rfl) ?_
                    refine va_put (D := (dC, dI)) (ci := 12) (v := .int vn) (ty := .int) (C := RX12) (T := TX12) (N := 46) hx hb hts inG12 tyX12 tyX12_ok nmX12 hown hK hP (wR_D nu72 hD) hS 0 (gM_0 cs ad nu72) rfl 35 (by decide) (hts _ (List.mem_cons_of_mem _ mw_5_76)) (fun _ h9 => h9) rfl (by decide +kernel) rfl rfl (Nat.le_of_ble_eq_true rfl) dX12_meetRoute_202 (fun H locs hP _ hS => ?_)
                    simp only [List.set_cons_succ, List.set_cons_zero] at hP
                    refine wr_gen (upd (nu72 0) 35 vn) hP ((hM_0_35 cs ad _ _)) (fun nu78 hn78 hP => ?_)
                    have ok := tM_0_35 ok hn78
                    have ez79 : y21 = nu78 0 39 := ez73.trans (up_f hn78 (by decide)).symm
                    have ez80 : t29 = nu78 0 33 := ez75.trans (up_f hn78 (by decide)).symm
                    have ez81 : t35 = nu78 0 36 := ez76.trans (up_f hn78 (by decide)).symm
                    have ez82 : vp = nu78 0 34 := ez77.trans (up_f hn78 (by decide)).symm
                    have ez83 : vn = nu78 0 35 := up_v hn78
                    refine lv_aload_n hx hb dX12_meetRoute_205 rfl (lv_at hl 0 rfl) ?_
                    refine lv_aload_n hx hb dX12_meetRoute_206 rfl (lv_at hl 0 rfl) ?_
                    refine va_get (D := (dC, dI)) (ci := 12) (v := .ref (ad 18)) (C := RX12) (T := TX12) (N := 46) hx hb hts inG12 hown hK hP 0 (gM_0 cs ad nu78) rfl 28 (by decide) (hts _ (List.mem_cons_of_mem _ mw_5_69)) (fun _ h9 => h9) rfl dX12_meetRoute_207 ?_
                    refine lv_iload_n hx hb dX12_meetRoute_210 rfl (lv_at hl 1 rfl) ?_
                    have hFc := fr_all (wR_D nu78 hD) hS hA
                    refine va_callv (va_runV (As := [.ref (ad 18), .int vn]) (rest := []) ⟨hx, hb, hml, hown, hts⟩ (sm_copyRoute18 l dC dI cs ad nu78 ok H hP ((wR_D nu78 hD).weaken (fun _ _ _ _ => trivial)) vn (by omega)) (cwV 2 hts (wU_V mw_6_191 mw_6_188 mw_6_190 mw_0_57 mw_1_13) rfl rfl rfl (by decide +kernel) ⟨Nat.le_of_ble_eq_true rfl, Nat.le_of_ble_eq_true rfl⟩) ⟨sz_c, va_recv hK hP (ci := 12) (q0 := 0) rfl (gM_0 cs ad nu78), sz_m hK hz⟩ rfl rfl hl.1 rfl (lv_room (Nat.le_of_ble_eq_true rfl)) dX12_meetRoute_211 ⟨Nat.zero_le _, Nat.zero_le _⟩) hS (fun q _ h => hFc q h) hFc (fun xi84 t H84 locs ht hvm hw84 hB hz1 hk1 hS => ?_)
                    have hP : va_P (dC, dI) vwCl (wR 21 ad (EM cs ad) xi84) H84 := by rw [← ht]; exact hB
                    obtain ⟨ok, hw84, hkp84_0⟩ := hw84
                    have ez85 : y21 = xi84 0 39 := ez79.trans (congrFun (hkp84_0 0 (by decide) (by decide)) 39).symm
                    have ez86 : t29 = xi84 0 33 := ez80.trans (congrFun (hkp84_0 0 (by decide) (by decide)) 33).symm
                    have ez87 : t35 = xi84 0 36 := ez81.trans (congrFun (hkp84_0 0 (by decide) (by decide)) 36).symm
                    have ez88 : vp = xi84 0 34 := ez82.trans (congrFun (hkp84_0 0 (by decide) (by decide)) 34).symm
                    have ez89 : vn = xi84 0 35 := ez83.trans (congrFun (hkp84_0 0 (by decide) (by decide)) 35).symm
                    exact W.vret hx hb hr (fun t ht hW => ⟨⟨xi84, rfl, ⟨ok, (by have hb90 := congrArg Int32.toInt ez85; have hb91 := congrArg Int32.toInt ez86; have hb92 := congrArg Int32.toInt ez89; omega), trivial⟩, by first | (subst ht; exact hP) | (rw [ht]; exact hP) | (show va_P (dC, dI) vwCl (wR 21 ad (EM cs ad) xi84) t.heap; rw [ht]; exact hP)⟩, hS.F ht⟩) hS.2.2 dX12_meetRoute_214
          refine lv_aload_n hx hb dX12_meetRoute_115 rfl (lv_at hl 0 rfl) ?_
          refine lv_iload hx hb dX12_meetRoute_116 (lv_at hl 5 rfl) ?_
          refine lv_aload_n hx hb dX12_meetRoute_118 rfl (lv_at hl 0 rfl) ?_
          refine va_get (D := (dC, dI)) (ci := 12) (v := .int (nj115_91 0 37)) (C := RX12) (T := TX12) (N := 46) hx hb hts inG12 hown hK hP 0 (gM_0 cs ad nj115_91) rfl 37 (by decide) (hts _ (List.mem_cons_of_mem _ mw_5_78)) (fun _ h9 => h9) rfl dX12_meetRoute_119 ?_
          refine lv_topi (fun y93 ey93 => ?_)
          have by93 : y93.toInt = (nj115_91 0 37).toInt := congrArg Int32.toInt ey93
          refine lv_icmp_ge (tgt := 130) hx hb dX12_meetRoute_122 (by decide) (fun c_94 => ?_) (fun c_94 => ?_)
          · have c_94 : y93.toInt ≤ j5_115_91.toInt := il_le c_94
            refine lv_aload_n hx hb dX12_meetRoute_130 rfl (lv_at hl 0 rfl) ?_
            refine va_get (D := (dC, dI)) (ci := 12) (v := .int (nj115_91 0 37)) (C := RX12) (T := TX12) (N := 46) hx hb hts inG12 hown hK hP 0 (gM_0 cs ad nj115_91) rfl 37 (by decide) (hts _ (List.mem_cons_of_mem _ mw_5_78)) (fun _ h9 => h9) rfl dX12_meetRoute_131 ?_
            refine lq_i y93 ey93.symm ?_
            refine va_put (D := (dC, dI)) (ci := 12) (v := .int y93) (ty := .int) (C := RX12) (T := TX12) (N := 46) hx hb hts inG12 tyX12 tyX12_ok nmX12 hown hK hP (wR_D nj115_91 hD) hS 0 (gM_0 cs ad nj115_91) rfl 37 (by decide) (hts _ (List.mem_cons_of_mem _ mw_5_78)) (fun _ h9 => h9) rfl (by decide +kernel) rfl rfl (Nat.le_of_ble_eq_true rfl) dX12_meetRoute_134 (fun H locs hP _ hS => ?_)
            simp only [List.set_cons_succ, List.set_cons_zero] at hP
            refine wr_gen (upd (nj115_91 0) 37 y93) hP ((hM_0_37 cs ad _ _)) (fun nu95 hn95 hP => ?_)
            have ok := tM_0_37 ok hn95
            have ez96 : y18 = nu95 0 39 := ey18.trans (up_f hn95 (by decide)).symm
            have ez97 : y19 = nu95 0 33 := ey19.trans (up_f hn95 (by decide)).symm
            have ez98 : y20 = nu95 0 35 := ey20.trans (up_f hn95 (by decide)).symm
            have ez99 : y93 = nu95 0 37 := up_v hn95
            exact join137_115  nu95 _ _ _  (by have hb100 := congrArg Int32.toInt ez96; have hb101 := congrArg Int32.toInt ez97; have hb102 := congrArg Int32.toInt ez98; omega) (by have hb103 := congrArg Int32.toInt ez96; omega) ok hP   hS (lv_sub hl [0, 1, 2, 3, 4, 5] rfl)
          · have c_94 : j5_115_91.toInt < y93.toInt := il_nle c_94
            refine lv_iload hx hb dX12_meetRoute_125 (lv_at hl 5 rfl) ?_
            refine lv_goto (tgt := 134) hx hb dX12_meetRoute_127 (by decide) ?_
            refine va_put (D := (dC, dI)) (ci := 12) (v := .int j5_115_91) (ty := .int) (C := RX12) (T := TX12) (N := 46) hx hb hts inG12 tyX12 tyX12_ok nmX12 hown hK hP (wR_D nj115_91 hD) hS 0 (gM_0 cs ad nj115_91) rfl 37 (by decide) (hts _ (List.mem_cons_of_mem _ mw_5_78)) (fun _ h9 => h9) rfl (by decide +kernel) rfl rfl (Nat.le_of_ble_eq_true rfl) dX12_meetRoute_134 (fun H locs hP _ hS => ?_)
            simp only [List.set_cons_succ, List.set_cons_zero] at hP
            refine wr_gen (upd (nj115_91 0) 37 j5_115_91) hP ((hM_0_37 cs ad _ _)) (fun nu104 hn104 hP => ?_)
            have ok := tM_0_37 ok hn104
            have ez105 : y18 = nu104 0 39 := ey18.trans (up_f hn104 (by decide)).symm
            have ez106 : y19 = nu104 0 33 := ey19.trans (up_f hn104 (by decide)).symm
            have ez107 : y20 = nu104 0 35 := ey20.trans (up_f hn104 (by decide)).symm
            have ez108 : j5_115_91 = nu104 0 37 := up_v hn104
            exact join137_115  nu104 _ _ _  (by have hb109 := congrArg Int32.toInt ez105; have hb110 := congrArg Int32.toInt ez106; have hb111 := congrArg Int32.toInt ez107; omega) (by have hb112 := congrArg Int32.toInt ez105; omega) ok hP   hS (lv_sub hl [0, 1, 2, 3, 4, 5] rfl)
        refine lv_iload_n hx hb dX12_meetRoute_91 rfl (lv_at hl 3 rfl) ?_
        refine lv_if_ne (tgt := 99) hx hb dX12_meetRoute_92 (by decide) (fun c_113 => ?_) (fun c_113 => ?_)
        · have c_113 : ¬ vp.toInt = 0 := il_ne c_113
          refine lv_iload_n hx hb dX12_meetRoute_99 rfl (lv_at hl 3 rfl) ?_
          refine lv_aload_n hx hb dX12_meetRoute_100 rfl (lv_at hl 0 rfl) ?_
          refine lv_aload_n hx hb dX12_meetRoute_101 rfl (lv_at hl 0 rfl) ?_
          refine va_get (D := (dC, dI)) (ci := 12) (v := .int (nj91_63 0 39)) (C := RX12) (T := TX12) (N := 46) hx hb hts inG12 hown hK hP 0 (gM_0 cs ad nj91_63) rfl 39 (by decide) (hts _ (List.mem_cons_of_mem _ mw_5_80)) (fun _ h9 => h9) rfl dX12_meetRoute_102 ?_
          refine lq_i y15 ey15.symm ?_
          refine lv_iconst (v := 3) hx hb dX12_meetRoute_105 (by decide) ?_
          refine cr_i (va_runV (As := [.int y15, .int 3]) (rest := [.int vp]) ⟨hx, hb, hml, hown, hts⟩ (sm_letterOf l dC dI cs ad nj91_63 ok H hP y15 3 (by have h51 : (3 : Int32).toInt = 3 := rfl; omega)) (cwV 2 hts (wU_V mw_6_48 mw_6_45 mw_6_47 mw_0_38 mw_1_13) rfl rfl rfl (by decide +kernel) ⟨Nat.le_of_ble_eq_true rfl, Nat.le_of_ble_eq_true rfl⟩) ⟨sz_c, va_recv hK hP (ci := 12) (q0 := 0) rfl (gM_0 cs ad nj91_63), sz_m hK hz⟩ rfl rfl hl.1 rfl (lv_room (Nat.le_of_ble_eq_true rfl)) dX12_meetRoute_106 ⟨Nat.zero_le _, Nat.zero_le _⟩) hS (fun r114 hw114 locs hS => ?_)
          refine lv_iload hx hb dX12_meetRoute_109 (lv_at hl 4 rfl) ?_
          refine lv_imul hx hb dX12_meetRoute_111 ?_
          refine lv_topi (fun t115 et115 => ?_)
          refine lv_iadd hx hb dX12_meetRoute_112 ?_
          refine lv_topi (fun t116 et116 => ?_)
          refine lv_istore (lv' := [(5, .int t116), (0, .ref (ad 0)), (1, .int vn), (2, .int vs), (3, .int vp), (4, .int j4_91_63)]) hx hb dX12_meetRoute_113 hl (by decide) rfl (fun ls hl => ?_)
          exact join115_91 (t116) nj91_63 _ _ _  (by have hb117 := congrArg Int32.toInt ey15; have hb118 := congrArg Int32.toInt ey16; have hb119 := congrArg Int32.toInt ey17; omega) (by have hb120 := congrArg Int32.toInt ey15; omega) ok hP   hS (lv_sub hl [1, 2, 3, 4, 5, 0] rfl)
        · have c_113 : vp.toInt = 0 := il_eq c_113
          refine lv_iconst (v := 0) hx hb dX12_meetRoute_95 (by decide) ?_
          refine lv_goto (tgt := 113) hx hb dX12_meetRoute_96 (by decide) ?_
          refine lv_istore (lv' := [(5, .int 0), (0, .ref (ad 0)), (1, .int vn), (2, .int vs), (3, .int vp), (4, .int j4_91_63)]) hx hb dX12_meetRoute_113 hl (by decide) rfl (fun ls hl => ?_)
          exact join115_91 (0) nj91_63 _ _ _  (by have h80 : (0 : Int32).toInt = 0 := rfl; have hb121 := congrArg Int32.toInt ey15; have hb122 := congrArg Int32.toInt ey16; have hb123 := congrArg Int32.toInt ey17; omega) (by have h80 : (0 : Int32).toInt = 0 := rfl; have hb124 := congrArg Int32.toInt ey15; omega) ok hP   hS (lv_sub hl [1, 2, 3, 4, 5, 0] rfl)
      refine lv_iload_n hx hb dX12_meetRoute_63 rfl (lv_at hl 1 rfl) ?_
      refine lv_iconst (v := 2) hx hb dX12_meetRoute_64 (by decide) ?_
      refine lv_isub hx hb dX12_meetRoute_65 ?_
      refine lv_topi (fun t125 et125 => ?_)
      have at125 : t125.toInt = vn.toInt - 2 := by rw [et125]; exact tI_sub (rfl : vn.toInt = _) (rfl : (2 : Int32).toInt = 2) (by omega) (by omega)
      refine lv_aload_n hx hb dX12_meetRoute_66 rfl (lv_at hl 0 rfl) ?_
      refine lv_aload_n hx hb dX12_meetRoute_67 rfl (lv_at hl 0 rfl) ?_
      refine va_get (D := (dC, dI)) (ci := 12) (v := .int (nj53_10 0 39)) (C := RX12) (T := TX12) (N := 46) hx hb hts inG12 hown hK hP 0 (gM_0 cs ad nj53_10) rfl 39 (by decide) (hts _ (List.mem_cons_of_mem _ mw_5_80)) (fun _ h9 => h9) rfl dX12_meetRoute_68 ?_
      refine lq_i y11 ey11.symm ?_
      refine lv_bipush (v := 8) hx hb dX12_meetRoute_71 (by decide) ?_
      refine cr_i (va_runV (As := [.int y11, .int 8]) (rest := [.int t125]) ⟨hx, hb, hml, hown, hts⟩ (sm_letterOf l dC dI cs ad nj53_10 ok H hP y11 8 (by have h51 : (8 : Int32).toInt = 8 := rfl; omega)) (cwV 2 hts (wU_V mw_6_48 mw_6_45 mw_6_47 mw_0_38 mw_1_13) rfl rfl rfl (by decide +kernel) ⟨Nat.le_of_ble_eq_true rfl, Nat.le_of_ble_eq_true rfl⟩) ⟨sz_c, va_recv hK hP (ci := 12) (q0 := 0) rfl (gM_0 cs ad nj53_10), sz_m hK hz⟩ rfl rfl hl.1 rfl (lv_room (Nat.le_of_ble_eq_true rfl)) dX12_meetRoute_73 ⟨Nat.zero_le _, Nat.zero_le _⟩) hS (fun r126 hw126 locs hS => ?_)
      refine lv_aload_n hx hb dX12_meetRoute_76 rfl (lv_at hl 0 rfl) ?_
      refine va_get (D := (dC, dI)) (ci := 12) (v := .int (nj53_10 0 14)) (C := RX12) (T := TX12) (N := 46) hx hb hts inG12 hown hK hP 0 (gM_0 cs ad nj53_10) rfl 14 (by decide) (hts _ (List.mem_cons_of_mem _ mw_5_55)) (fun _ h9 => h9) rfl dX12_meetRoute_77 ?_
      refine lv_topi (fun y127 ey127 => ?_)
      have by127 : y127.toInt = (nj53_10 0 14).toInt := congrArg Int32.toInt ey127
      refine lv_icmp_ne (tgt := 87) hx hb dX12_meetRoute_80 (by decide) (fun c_128 => ?_) (fun c_128 => ?_)
      · have c_128 : ¬ r126.toInt = y127.toInt := il_ne c_128
        refine lv_iconst (v := 0) hx hb dX12_meetRoute_87 (by decide) ?_
        refine lv_iadd hx hb dX12_meetRoute_88 ?_
        refine lv_topi (fun t129 et129 => ?_)
        have at129 : t129.toInt = t125.toInt + 0 := by rw [et129]; exact tI_add (rfl : t125.toInt = _) (rfl : (0 : Int32).toInt = 0) (by omega) (by omega)
        refine lv_istore (lv' := [(4, .int t129), (0, .ref (ad 0)), (1, .int vn), (2, .int vs), (3, .int vp)]) hx hb dX12_meetRoute_89 hl (by decide) rfl (fun ls hl => ?_)
        exact join91_63 (t129) nj53_10 _ _ _  (by have hb130 := congrArg Int32.toInt ey11; have hb131 := congrArg Int32.toInt ey12; have hb132 := congrArg Int32.toInt ey13; omega) (by have hb133 := congrArg Int32.toInt ey11; omega) ok hP   hS (lv_sub hl [1, 2, 3, 4, 0] rfl)
      · have c_128 : r126.toInt = y127.toInt := il_eq c_128
        refine lv_iconst (v := 1) hx hb dX12_meetRoute_83 (by decide) ?_
        refine lv_goto (tgt := 88) hx hb dX12_meetRoute_84 (by decide) ?_
        refine lv_iadd hx hb dX12_meetRoute_88 ?_
        refine lv_topi (fun t134 et134 => ?_)
        have at134 : t134.toInt = t125.toInt + 1 := by rw [et134]; exact tI_add (rfl : t125.toInt = _) (rfl : (1 : Int32).toInt = 1) (by omega) (by omega)
        refine lv_istore (lv' := [(4, .int t134), (0, .ref (ad 0)), (1, .int vn), (2, .int vs), (3, .int vp)]) hx hb dX12_meetRoute_89 hl (by decide) rfl (fun ls hl => ?_)
        exact join91_63 (t134) nj53_10 _ _ _  (by have hb135 := congrArg Int32.toInt ey11; have hb136 := congrArg Int32.toInt ey12; have hb137 := congrArg Int32.toInt ey13; omega) (by have hb138 := congrArg Int32.toInt ey11; omega) ok hP   hS (lv_sub hl [1, 2, 3, 4, 0] rfl)
    · have c_14 : y11.toInt = -9 := il_eq c_14
      exact W.vret hx hb hr (fun t ht hW => ⟨⟨nj53_10, rfl, ⟨ok, (by have hb139 := congrArg Int32.toInt ey11; have hb140 := congrArg Int32.toInt ey12; have hb141 := congrArg Int32.toInt ey13; omega), trivial⟩, by first | (subst ht; exact hP) | (rw [ht]; exact hP) | (show va_P (dC, dI) vwCl (wR 21 ad (EM cs ad) nj53_10) t.heap; rw [ht]; exact hP)⟩, hS.F ht⟩) hS.2.2 dX12_meetRoute_62
  refine lv_iload_n hx hb dX12_meetRoute_10 rfl (lv_at hl 3 rfl) ?_
  refine lv_aload_n hx hb dX12_meetRoute_11 rfl (lv_at hl 0 rfl) ?_
  refine va_get (D := (dC, dI)) (ci := 12) (v := .int (nu6 0 31)) (C := RX12) (T := TX12) (N := 46) hx hb hts inG12 hown hK hP 0 (gM_0 cs ad nu6) rfl 31 (by decide) (hts _ (List.mem_cons_of_mem _ mw_5_72)) (fun _ h9 => h9) rfl dX12_meetRoute_12 ?_
  refine lv_topi (fun y142 ey142 => ?_)
  have by142 : y142.toInt = (nu6 0 31).toInt := congrArg Int32.toInt ey142
  refine lv_icmp_lt (tgt := 34) hx hb dX12_meetRoute_15 (by decide) (fun c_143 => ?_) (fun c_143 => ?_)
  · have c_143 : vp.toInt < y142.toInt := il_lt c_143
    refine lv_aload_n hx hb dX12_meetRoute_34 rfl (lv_at hl 0 rfl) ?_
    refine lv_iload_n hx hb dX12_meetRoute_35 rfl (lv_at hl 3 rfl) ?_
    refine va_put (D := (dC, dI)) (ci := 12) (v := .int vp) (ty := .int) (C := RX12) (T := TX12) (N := 46) hx hb hts inG12 tyX12 tyX12_ok nmX12 hown hK hP (wR_D nu6 hD) hS 0 (gM_0 cs ad nu6) rfl 31 (by decide) (hts _ (List.mem_cons_of_mem _ mw_5_72)) (fun _ h9 => h9) rfl (by decide +kernel) rfl rfl (Nat.le_of_ble_eq_true rfl) dX12_meetRoute_36 (fun H locs hP _ hS => ?_)
    simp only [List.set_cons_succ, List.set_cons_zero] at hP
    refine wr_gen (upd (nu6 0) 31 vp) hP ((hM_0_31 cs ad _ _)) (fun nu144 hn144 hP => ?_)
    have ok := tM_0_31 ok hn144
    have ez145 : y1 = nu144 0 39 := ez7.trans (up_f hn144 (by decide)).symm
    have ez146 : y2 = nu144 0 33 := ez8.trans (up_f hn144 (by decide)).symm
    have ez147 : y3 = nu144 0 35 := ez9.trans (up_f hn144 (by decide)).symm
    have ez148 : t5 = nu144 0 30 := ez10.trans (up_f hn144 (by decide)).symm
    have ez149 : vp = nu144 0 31 := up_v hn144
    refine lv_aload_n hx hb dX12_meetRoute_39 rfl (lv_at hl 0 rfl) ?_
    refine lv_iload_n hx hb dX12_meetRoute_40 rfl (lv_at hl 1 rfl) ?_
    refine va_put (D := (dC, dI)) (ci := 12) (v := .int vn) (ty := .int) (C := RX12) (T := TX12) (N := 46) hx hb hts inG12 tyX12 tyX12_ok nmX12 hown hK hP (wR_D nu144 hD) hS 0 (gM_0 cs ad nu144) rfl 32 (by decide) (hts _ (List.mem_cons_of_mem _ mw_5_73)) (fun _ h9 => h9) rfl (by decide +kernel) rfl rfl (Nat.le_of_ble_eq_true rfl) dX12_meetRoute_41 (fun H locs hP _ hS => ?_)
    simp only [List.set_cons_succ, List.set_cons_zero] at hP
    refine wr_gen (upd (nu144 0) 32 vn) hP ((hM_0_32 cs ad _ _)) (fun nu150 hn150 hP => ?_)
    have ok := tM_0_32 ok hn150 (by exact ⟨by omega, by omega⟩)
    have ez151 : y1 = nu150 0 39 := ez145.trans (up_f hn150 (by decide)).symm
    have ez152 : y2 = nu150 0 33 := ez146.trans (up_f hn150 (by decide)).symm
    have ez153 : y3 = nu150 0 35 := ez147.trans (up_f hn150 (by decide)).symm
    have ez154 : t5 = nu150 0 30 := ez148.trans (up_f hn150 (by decide)).symm
    have ez155 : vp = nu150 0 31 := ez149.trans (up_f hn150 (by decide)).symm
    have ez156 : vn = nu150 0 32 := up_v hn150
    refine lv_aload_n hx hb dX12_meetRoute_44 rfl (lv_at hl 0 rfl) ?_
    refine lv_aload_n hx hb dX12_meetRoute_45 rfl (lv_at hl 0 rfl) ?_
    refine va_get (D := (dC, dI)) (ci := 12) (v := .ref (ad 17)) (C := RX12) (T := TX12) (N := 46) hx hb hts inG12 hown hK hP 0 (gM_0 cs ad nu150) rfl 27 (by decide) (hts _ (List.mem_cons_of_mem _ mw_5_68)) (fun _ h9 => h9) rfl dX12_meetRoute_46 ?_
    refine lv_iload_n hx hb dX12_meetRoute_49 rfl (lv_at hl 1 rfl) ?_
    have hFc := fr_all (wR_D nu150 hD) hS hA
    refine va_callv (va_runV (As := [.ref (ad 17), .int vn]) (rest := []) ⟨hx, hb, hml, hown, hts⟩ (sm_copyRoute17 l dC dI cs ad nu150 ok H hP ((wR_D nu150 hD).weaken (fun _ _ _ _ => trivial)) vn (by omega)) (cwV 2 hts (wU_V mw_6_191 mw_6_188 mw_6_190 mw_0_57 mw_1_13) rfl rfl rfl (by decide +kernel) ⟨Nat.le_of_ble_eq_true rfl, Nat.le_of_ble_eq_true rfl⟩) ⟨sz_c, va_recv hK hP (ci := 12) (q0 := 0) rfl (gM_0 cs ad nu150), sz_m hK hz⟩ rfl rfl hl.1 rfl (lv_room (Nat.le_of_ble_eq_true rfl)) dX12_meetRoute_50 ⟨Nat.zero_le _, Nat.zero_le _⟩) hS (fun q _ h => hFc q h) hFc (fun xi157 t H157 locs ht hvm hw157 hB hz1 hk1 hS => ?_)
    have hP : va_P (dC, dI) vwCl (wR 21 ad (EM cs ad) xi157) H157 := by rw [← ht]; exact hB
    obtain ⟨ok, hw157, hkp157_0⟩ := hw157
    have ez158 : y1 = xi157 0 39 := ez151.trans (congrFun (hkp157_0 0 (by decide) (by decide)) 39).symm
    have ez159 : y2 = xi157 0 33 := ez152.trans (congrFun (hkp157_0 0 (by decide) (by decide)) 33).symm
    have ez160 : y3 = xi157 0 35 := ez153.trans (congrFun (hkp157_0 0 (by decide) (by decide)) 35).symm
    have ez161 : t5 = xi157 0 30 := ez154.trans (congrFun (hkp157_0 0 (by decide) (by decide)) 30).symm
    have ez162 : vp = xi157 0 31 := ez155.trans (congrFun (hkp157_0 0 (by decide) (by decide)) 31).symm
    have ez163 : vn = xi157 0 32 := ez156.trans (congrFun (hkp157_0 0 (by decide) (by decide)) 32).symm
    exact join53_10  xi157 _ _ _  (by have hb164 := congrArg Int32.toInt ez158; have hb165 := congrArg Int32.toInt ez159; have hb166 := congrArg Int32.toInt ez160; omega) ok hP   hS (lv_sub hl [0, 1, 2, 3] rfl)
  · have c_143 : y142.toInt ≤ vp.toInt := il_nlt c_143
    refine lv_iload_n hx hb dX12_meetRoute_18 rfl (lv_at hl 3 rfl) ?_
    refine lv_aload_n hx hb dX12_meetRoute_19 rfl (lv_at hl 0 rfl) ?_
    refine va_get (D := (dC, dI)) (ci := 12) (v := .int (nu6 0 31)) (C := RX12) (T := TX12) (N := 46) hx hb hts inG12 hown hK hP 0 (gM_0 cs ad nu6) rfl 31 (by decide) (hts _ (List.mem_cons_of_mem _ mw_5_72)) (fun _ h9 => h9) rfl dX12_meetRoute_20 ?_
    refine lq_i y142 ey142.symm ?_
    refine lv_icmp_ne (tgt := 53) hx hb dX12_meetRoute_23 (by decide) (fun c_167 => ?_) (fun c_167 => ?_)
    · have c_167 : ¬ vp.toInt = y142.toInt := il_ne c_167
      exact join53_10  nu6 _ _ _  (by have hb168 := congrArg Int32.toInt ez7; have hb169 := congrArg Int32.toInt ez8; have hb170 := congrArg Int32.toInt ez9; omega) ok hP   hS (lv_sub hl [0, 1, 2, 3] rfl)
    · have c_167 : vp.toInt = y142.toInt := il_eq c_167
      refine lv_iload_n hx hb dX12_meetRoute_26 rfl (lv_at hl 1 rfl) ?_
      refine lv_aload_n hx hb dX12_meetRoute_27 rfl (lv_at hl 0 rfl) ?_
      refine va_get (D := (dC, dI)) (ci := 12) (v := .int (nu6 0 32)) (C := RX12) (T := TX12) (N := 46) hx hb hts inG12 hown hK hP 0 (gM_0 cs ad nu6) rfl 32 (by decide) (hts _ (List.mem_cons_of_mem _ mw_5_73)) (fun _ h9 => h9) rfl dX12_meetRoute_28 ?_
      refine lv_topi (fun y171 ey171 => ?_)
      have by171 : y171.toInt = (nu6 0 32).toInt := congrArg Int32.toInt ey171
      have gy171 : 0 ≤ y171.toInt ∧ y171.toInt ≤ 7 := by rw [ey171]; exact rM_0_32 ok
      refine lv_icmp_ge (tgt := 53) hx hb dX12_meetRoute_31 (by decide) (fun c_172 => ?_) (fun c_172 => ?_)
      · have c_172 : y171.toInt ≤ vn.toInt := il_le c_172
        exact join53_10  nu6 _ _ _  (by have hb173 := congrArg Int32.toInt ez7; have hb174 := congrArg Int32.toInt ez8; have hb175 := congrArg Int32.toInt ez9; omega) ok hP   hS (lv_sub hl [0, 1, 2, 3] rfl)
      · have c_172 : vn.toInt < y171.toInt := il_nle c_172
        refine lv_aload_n hx hb dX12_meetRoute_34 rfl (lv_at hl 0 rfl) ?_
        refine lv_iload_n hx hb dX12_meetRoute_35 rfl (lv_at hl 3 rfl) ?_
        refine va_put (D := (dC, dI)) (ci := 12) (v := .int vp) (ty := .int) (C := RX12) (T := TX12) (N := 46) hx hb hts inG12 tyX12 tyX12_ok nmX12 hown hK hP (wR_D nu6 hD) hS 0 (gM_0 cs ad nu6) rfl 31 (by decide) (hts _ (List.mem_cons_of_mem _ mw_5_72)) (fun _ h9 => h9) rfl (by decide +kernel) rfl rfl (Nat.le_of_ble_eq_true rfl) dX12_meetRoute_36 (fun H locs hP _ hS => ?_)
        simp only [List.set_cons_succ, List.set_cons_zero] at hP
        refine wr_gen (upd (nu6 0) 31 vp) hP ((hM_0_31 cs ad _ _)) (fun nu176 hn176 hP => ?_)
        have ok := tM_0_31 ok hn176
        have ez177 : y1 = nu176 0 39 := ez7.trans (up_f hn176 (by decide)).symm
        have ez178 : y2 = nu176 0 33 := ez8.trans (up_f hn176 (by decide)).symm
        have ez179 : y3 = nu176 0 35 := ez9.trans (up_f hn176 (by decide)).symm
        have ez180 : t5 = nu176 0 30 := ez10.trans (up_f hn176 (by decide)).symm
        have ez181 : y171 = nu176 0 32 := ey171.trans (up_f hn176 (by decide)).symm
        have ez182 : vp = nu176 0 31 := up_v hn176
        refine lv_aload_n hx hb dX12_meetRoute_39 rfl (lv_at hl 0 rfl) ?_
        refine lv_iload_n hx hb dX12_meetRoute_40 rfl (lv_at hl 1 rfl) ?_
        refine va_put (D := (dC, dI)) (ci := 12) (v := .int vn) (ty := .int) (C := RX12) (T := TX12) (N := 46) hx hb hts inG12 tyX12 tyX12_ok nmX12 hown hK hP (wR_D nu176 hD) hS 0 (gM_0 cs ad nu176) rfl 32 (by decide) (hts _ (List.mem_cons_of_mem _ mw_5_73)) (fun _ h9 => h9) rfl (by decide +kernel) rfl rfl (Nat.le_of_ble_eq_true rfl) dX12_meetRoute_41 (fun H locs hP _ hS => ?_)
        simp only [List.set_cons_succ, List.set_cons_zero] at hP
        refine wr_gen (upd (nu176 0) 32 vn) hP ((hM_0_32 cs ad _ _)) (fun nu183 hn183 hP => ?_)
        have ok := tM_0_32 ok hn183 (by exact ⟨by omega, by omega⟩)
        have ez184 : y1 = nu183 0 39 := ez177.trans (up_f hn183 (by decide)).symm
        have ez185 : y2 = nu183 0 33 := ez178.trans (up_f hn183 (by decide)).symm
        have ez186 : y3 = nu183 0 35 := ez179.trans (up_f hn183 (by decide)).symm
        have ez187 : t5 = nu183 0 30 := ez180.trans (up_f hn183 (by decide)).symm
        have ez188 : vp = nu183 0 31 := ez182.trans (up_f hn183 (by decide)).symm
        have ez189 : vn = nu183 0 32 := up_v hn183
        refine lv_aload_n hx hb dX12_meetRoute_44 rfl (lv_at hl 0 rfl) ?_
        refine lv_aload_n hx hb dX12_meetRoute_45 rfl (lv_at hl 0 rfl) ?_
        refine va_get (D := (dC, dI)) (ci := 12) (v := .ref (ad 17)) (C := RX12) (T := TX12) (N := 46) hx hb hts inG12 hown hK hP 0 (gM_0 cs ad nu183) rfl 27 (by decide) (hts _ (List.mem_cons_of_mem _ mw_5_68)) (fun _ h9 => h9) rfl dX12_meetRoute_46 ?_
        refine lv_iload_n hx hb dX12_meetRoute_49 rfl (lv_at hl 1 rfl) ?_
        have hFc := fr_all (wR_D nu183 hD) hS hA
        refine va_callv (va_runV (As := [.ref (ad 17), .int vn]) (rest := []) ⟨hx, hb, hml, hown, hts⟩ (sm_copyRoute17 l dC dI cs ad nu183 ok H hP ((wR_D nu183 hD).weaken (fun _ _ _ _ => trivial)) vn (by omega)) (cwV 2 hts (wU_V mw_6_191 mw_6_188 mw_6_190 mw_0_57 mw_1_13) rfl rfl rfl (by decide +kernel) ⟨Nat.le_of_ble_eq_true rfl, Nat.le_of_ble_eq_true rfl⟩) ⟨sz_c, va_recv hK hP (ci := 12) (q0 := 0) rfl (gM_0 cs ad nu183), sz_m hK hz⟩ rfl rfl hl.1 rfl (lv_room (Nat.le_of_ble_eq_true rfl)) dX12_meetRoute_50 ⟨Nat.zero_le _, Nat.zero_le _⟩) hS (fun q _ h => hFc q h) hFc (fun xi190 t H190 locs ht hvm hw190 hB hz1 hk1 hS => ?_)
        have hP : va_P (dC, dI) vwCl (wR 21 ad (EM cs ad) xi190) H190 := by rw [← ht]; exact hB
        obtain ⟨ok, hw190, hkp190_0⟩ := hw190
        have ez191 : y1 = xi190 0 39 := ez184.trans (congrFun (hkp190_0 0 (by decide) (by decide)) 39).symm
        have ez192 : y2 = xi190 0 33 := ez185.trans (congrFun (hkp190_0 0 (by decide) (by decide)) 33).symm
        have ez193 : y3 = xi190 0 35 := ez186.trans (congrFun (hkp190_0 0 (by decide) (by decide)) 35).symm
        have ez194 : t5 = xi190 0 30 := ez187.trans (congrFun (hkp190_0 0 (by decide) (by decide)) 30).symm
        have ez195 : vp = xi190 0 31 := ez188.trans (congrFun (hkp190_0 0 (by decide) (by decide)) 31).symm
        have ez196 : vn = xi190 0 32 := ez189.trans (congrFun (hkp190_0 0 (by decide) (by decide)) 32).symm
        exact join53_10  xi190 _ _ _  (by have hb197 := congrArg Int32.toInt ez191; have hb198 := congrArg Int32.toInt ez192; have hb199 := congrArg Int32.toInt ez193; omega) ok hP   hS (lv_sub hl [0, 1, 2, 3] rfl)
