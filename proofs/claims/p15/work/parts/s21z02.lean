set_option maxHeartbeats 4000000 in
set_option maxRecDepth 100000 in
/-- sx_linkUnder -/
theorem sx_linkUnder (l : Launch) (dC : Nat → ClassId) (dI : Nat → Nat → Nat) (cs : Nat → ClassId) (ad : Nat → Nat) (mu : Nat → Nat → Int32) (ok : okR loX hiX mu) (H : Heap) (hP : va_P (dC, dI) vwCl (wR 157 ad (EX cs ad) mu) H) (hD0 : va_D (fun _ => True) (wR 157 ad (EX cs ad) mu)) (vs : Int32) : Met l yX5_linkUnder (wU yX5_linkUnder cX5_linkUnder 4 none) ({ frames := 2, cells := 0, slots := 0, locals := 45 }) (va_Pc [.ref (ad 32), .ref (ad 4), .int vs] (sz_P (dC, dI) vwCl (tyW cs) H)) (va_Qv (fun (xi : Nat → Nat → Int32) => okR loX hiX xi ∧ (True) ∧ (∀ k f : Nat, Nat.testBit 510 (gpX k f) = true → xi k f = mu k f)) (fun xi t => va_P (dC, dI) vwCl (wR 157 ad (EX cs ad) xi) t.heap) (va_A (wR 157 ad (EX cs ad) mu) H.size)) 0 0 (va_A (wR 157 ad (EX cs ad) mu) H.size) := by
  refine Met.ofW (cc := cX5_linkUnder) (maxL := 4) (ret := none) (by decide) rfl ?_
  intro p e s m args below meth c s₁ B hml hv
  obtain ⟨rfl, hh, hK, hz⟩ := hv
  have hx := B.exec
  have hb := B.bytes
  have hr := B.returns
  have hts := atoms_spec (ws := (wU yX5_linkUnder cX5_linkUnder 4 none)) B.pre
  have hown : s.vm.findClass RX5 = some m.cls := findClass_of_methodNamed B.named
  have hlocks := B.notSynchronized
  subst hh
  have hD := hD0.self (sz := s.heap.size)
  have hA : ∀ q : Nat, s.heap.size ≤ q → (va_A (wR 157 ad (EX cs ad) mu) s.heap.size) q := fun q h => Or.inr h
  have hS : va_S (va_A (wR 157 ad (EX cs ad) mu) s.heap.size) s.heap s.heap [] := va_S.rf
  have hl := lv_entry ([.ref (ad 32), .ref (ad 4), .int vs]) (n := 4) (Nat.le_of_ble_eq_true rfl)
  rw [lg_entry_eq]
  generalize (lg_sl ([.ref (ad 32), .ref (ad 4), .int vs]) ++ List.replicate (4 - (lg_sl ([.ref (ad 32), .ref (ad 4), .int vs])).length) Slot.unset).toArray = ls at hl ⊢
  have hl : lv_has ls 4 [(0, .ref (ad 32)), (1, .ref (ad 4)), (2, .int vs)] := hl
  refine lv_iconst (v := 0) hx hb dX5_linkUnder_0 (by decide) ?_
  refine lv_istore_n (lv' := [(3, .int 0), (0, .ref (ad 32)), (1, .ref (ad 4)), (2, .int vs)]) hx hb dX5_linkUnder_1 rfl hl (by decide) rfl (fun ls hl => ?_)
  have loop2 : ∀ (n2 : Nat) (v3_2 : Int32) (nu2_ : Nat → Nat → Int32) (H : Heap) (locs : List Loc) (ls : Array Slot), (7 + 1 - v3_2.toInt).toNat < n2 → (0 ≤ v3_2.toInt ∧ v3_2.toInt ≤ 7) → okR loX hiX nu2_ → va_P (dC, dI) vwCl (wR 157 ad (EX cs ad) nu2_) H → (∀ k f : Nat, Nat.testBit 510 (gpX k f) = true → nu2_ k f = mu k f) → va_S (va_A (wR 157 ad (EX cs ad) mu) s.heap.size) s.heap H locs → lv_has ls 4 [(3, .int v3_2), (0, .ref (ad 32)), (1, .ref (ad 4)), (2, .int vs)] → W p l e (headSpec (wU yX5_linkUnder cX5_linkUnder 4 none) ({ frames := 2, cells := 0, slots := 0, locals := 45 })).room s m ([.ref (ad 32), .ref (ad 4), .int vs] : List Value).toArray below meth c H locs 0 0 (MQ below (va_Qv (fun (xi : Nat → Nat → Int32) => okR loX hiX xi ∧ (True) ∧ (∀ k f : Nat, Nat.testBit 510 (gpX k f) = true → xi k f = mu k f)) (fun xi t => va_P (dC, dI) vwCl (wR 157 ad (EX cs ad) xi) t.heap) (va_A (wR 157 ad (EX cs ad) mu) s.heap.size)) ([.ref (ad 32), .ref (ad 4), .int vs] : List Value).toArray s 0 0 (va_A (wR 157 ad (EX cs ad) mu) s.heap.size)) (F0 m 2 ls []) := by
    intro n2
    induction n2 with
    | zero => intro v3_2 nu2_ H locs ls hm; exact absurd hm (Nat.not_lt_zero _)
    | succ n2 ih2 =>
      intro v3_2 nu2_ H locs ls hm h_v3_2 ok hP kq2_0 hS hl
      refine lv_iload_n hx hb dX5_linkUnder_2 rfl (lv_at hl 0 rfl) ?_
      refine lv_aload_n hx hb dX5_linkUnder_3 rfl (lv_at hl 2 rfl) ?_
      refine va_get (D := (dC, dI)) (ci := 10) (v := .int (nu2_ 4 6)) (C := RX10) (T := TX10) (N := 8) hx hb hts inG10 hown hK hP 4 (gX_4 cs ad nu2_) rfl 6 (by decide) (hts _ (List.mem_cons_of_mem _ mw_1_162)) (fun _ h9 => h9) rfl dX5_linkUnder_4 ?_
      refine lv_topi (fun y1 ey1 => ?_)
      have by1 : y1.toInt = (nu2_ 4 6).toInt := congrArg Int32.toInt ey1
      have gy1 : 0 ≤ y1.toInt ∧ y1.toInt ≤ 7 := by rw [ey1]; exact rX_4_6 ok
      refine lv_icmp_ge (tgt := 28) hx hb dX5_linkUnder_7 (by decide) (fun c_2 => ?_) (fun c_2 => ?_)
      · have c_2 : y1.toInt ≤ v3_2.toInt := il_le c_2
        exact W.vret hx hb hr (fun t ht hW => ⟨⟨nu2_, rfl, ⟨ok, trivial, kq2_0⟩, by first | (subst ht; exact hP) | (rw [ht]; exact hP) | (show va_P (dC, dI) vwCl (wR 157 ad (EX cs ad) nu2_) t.heap; rw [ht]; exact hP)⟩, hS.F ht⟩) hS.2.2 dX5_linkUnder_28
      · have c_2 : v3_2.toInt < y1.toInt := il_nle c_2
        refine lv_aload_n hx hb dX5_linkUnder_10 rfl (lv_at hl 1 rfl) ?_
        refine va_get (D := (dC, dI)) (ci := 5) (v := .ref (ad 52)) (C := RX5) (T := TX5) (N := 15) hx hb hts inG5 hown hK hP 32 (gX_32 cs ad nu2_) rfl 0 (by decide) (hts _ (List.mem_cons_of_mem _ mw_2_46)) (fun _ h9 => h9) rfl dX5_linkUnder_11 ?_
        refine lv_iload_n hx hb dX5_linkUnder_14 rfl (lv_at hl 0 rfl) ?_
        refine lv_aload_n hx hb dX5_linkUnder_15 rfl (lv_at hl 2 rfl) ?_
        refine lv_iload_n hx hb dX5_linkUnder_16 rfl (lv_at hl 0 rfl) ?_
        refine lv_iload_n hx hb dX5_linkUnder_17 rfl (lv_at hl 3 rfl) ?_
        refine cr_i (va_runV (As := [.int v3_2, .int vs]) (rest := [.int v3_2, .ref (ad 52)]) ⟨hx, hb, hml, hown, hts⟩ (sx_near l dC dI cs ad nu2_ ok H hP v3_2 vs) (cwV 2 hts (wU_V mw_3_84 mw_4_19 mw_3_82 mw_3_83 mw_1_2) rfl rfl rfl (by decide +kernel) ⟨Nat.le_of_ble_eq_true rfl, Nat.le_of_ble_eq_true rfl⟩) ⟨sz_c, va_recv hK hP (ci := 10) (q0 := 4) rfl (gX_4 cs ad nu2_), sz_m hK hz⟩ rfl rfl hl.1 rfl (lv_room (Nat.le_of_ble_eq_true rfl)) dX5_linkUnder_18 ⟨Nat.zero_le _, Nat.zero_le _⟩) hS (fun r3 hw3 locs hS => ?_)
        obtain ⟨hfe3, hw3⟩ := hw3
        refine va_iast hx hb hK hP (wR_D nu2_ hD) hS 52 0 (gX_52 cs ad nu2_) rfl (show vp_in v3_2 7 from vi_of (by omega) (by omega)) dX5_linkUnder_21 (fun H locs hP _ hS => ?_)
        refine wr_gen (upd (nu2_ 52) v3_2.toNatClampNeg r3) hP (rfl) (fun nu4 hn4 hP => ?_)
        have ok := tX_52_s ok v3_2.toNatClampNeg hn4
        have ez5 : y1 = nu4 4 6 := ey1.trans (congrFun (up_k hn4 (by decide)) 6).symm
        have kp6 : (∀ k f : Nat, Nat.testBit 510 (gpX k f) = true → nu4 k f = mu k f) := kp_c 0 hn4 (fun _ => rfl) (by decide) kq2_0
        refine lv_iinc (v := (v3_2 + 1)) (lv' := [(3, .int (v3_2 + 1)), (0, .ref (ad 32)), (1, .ref (ad 4)), (2, .int vs)]) hx hb dX5_linkUnder_22 hl (k := 0) rfl rfl (by decide) rfl (fun ls hl => ?_)
        refine loc_gen (P := fun w9 => lv_has ls 4 [(3, .int w9), (0, .ref (ad 32)), (1, .ref (ad 4)), (2, .int vs)]) (v3_2 + 1) hl (fun w7 hw7 hl => ?_)
        have hl : lv_has ls 4 [(3, .int w7), (0, .ref (ad 32)), (1, .ref (ad 4)), (2, .int vs)] := hl
        have aw7 : w7.toInt = v3_2.toInt + 1 := by rw [← hw7]; exact tI_add (rfl : v3_2.toInt = _) (rfl : (1 : Int32).toInt = 1) (by omega) (by omega)
        refine lv_goto (tgt := 2) hx hb dX5_linkUnder_25 (by decide) ?_
        exact ih2 (w7) nu4 _ _ _ (by omega) (by exact ⟨by omega, by omega⟩)  ok hP  kp6 hS (lv_sub hl [0, 1, 2, 3] rfl)
  exact loop2 ((7 + 1 - (0 : Int32).toInt).toNat + 1) (0) mu _ _ _ (Nat.lt_succ_self _) (by have h80 : (0 : Int32).toInt = 0 := rfl; exact ⟨by omega, by omega⟩)  ok hP  (fun _ _ _ => rfl) hS hl
