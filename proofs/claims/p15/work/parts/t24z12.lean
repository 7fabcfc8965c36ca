set_option maxHeartbeats 4000000 in
set_option maxRecDepth 100000 in
/-- qm_digest -/
theorem qm_digest (l : Launch) (dC : Nat → ClassId) (dI : Nat → Nat → Nat) (cs : Nat → ClassId) (ad : Nat → Nat) (mu : Nat → Nat → Int32) (ok : okR loM hiM mu) (H : Heap) (hP : va_P (dC, dI) vwCl (wR 21 ad (EM cs ad) mu) H) (hD0 : va_D (fun _ => True) (wR 21 ad (EM cs ad) mu)) : Met l yX12_digest (wU yX12_digest cX12_digest 3 (some .long)) ({ frames := 4, cells := 0, slots := 0, locals := 92 }) (va_Pc [.ref (ad 0)] (sz_P (dC, dI) vwCl (tyM cs) H)) (va_Ql (fun (z : Int64) (xi : Nat → Nat → Int32) => okR loM hiM xi ∧ (True) ∧ (∀ k f : Nat, Nat.testBit 510 (gpM k f) = true → xi k f = mu k f)) (fun xi t => va_P (dC, dI) vwCl (wR 21 ad (EM cs ad) xi) t.heap) (va_A (wR 21 ad (EM cs ad) mu) H.size)) 0 0 (va_A (wR 21 ad (EM cs ad) mu) H.size) := by
  refine Met.ofW (cc := cX12_digest) (maxL := 3) (ret := (some .long)) (by decide) rfl ?_
  intro p e s m args below meth c s₁ B hml hv
  obtain ⟨rfl, hh, hK, hz⟩ := hv
  have hx := B.exec
  have hb := B.bytes
  have hr := B.returns
  have hts := atoms_spec (ws := (wU yX12_digest cX12_digest 3 (some .long))) B.pre
  have hown : s.vm.findClass RX12 = some m.cls := findClass_of_methodNamed B.named
  have hlocks := B.notSynchronized
  subst hh
  have hD := hD0.self (sz := s.heap.size)
  have hA : ∀ q : Nat, s.heap.size ≤ q → (va_A (wR 21 ad (EM cs ad) mu) s.heap.size) q := fun q h => Or.inr h
  have hS : va_S (va_A (wR 21 ad (EM cs ad) mu) s.heap.size) s.heap s.heap [] := va_S.rf
  have hl := lv_entry ([.ref (ad 0)]) (n := 3) (Nat.le_of_ble_eq_true rfl)
  rw [lg_entry_eq]
  generalize (lg_sl ([.ref (ad 0)]) ++ List.replicate (3 - (lg_sl ([.ref (ad 0)])).length) Slot.unset).toArray = ls at hl ⊢
  have hl : lv_has ls 3 [(0, .ref (ad 0))] := hl
  refine lv_aload_n hx hb dX12_digest_0 rfl (lv_at hl 0 rfl) ?_
  refine lv_ldc2 (v := 17) hx hb hown (hts _ (List.mem_cons_of_mem _ mw_7_83)) dX12_digest_1 ?_
  refine va_put (D := (dC, dI)) (ci := 12) (v := .long 17) (ty := .long) (C := RX12) (T := TX12) (N := 46) hx hb hts inG12 tyX12 tyX12_ok nmX12 hown hK hP (wR_D mu hD) hS 0 (gM_0 cs ad mu) rfl 45 (by decide) (hts _ (List.mem_cons_of_mem _ mw_5_86)) (fun _ h9 => h9) rfl (by decide +kernel) rfl rfl (Nat.le_of_ble_eq_true rfl) dX12_digest_4 (fun H locs hP _ hS => ?_)
  simp only [List.set_cons_succ, List.set_cons_zero] at hP
  obtain ⟨ja1, jb1, hj1⟩ := jn_of (17)
  rw [← hj1] at hP
  refine wr_gen (upd (upd (mu 0) 45 ja1) 46 jb1) hP rfl (fun nu2 hn2 hP => ?_)
  have ok := okR_2 (k := 0) (f := 45) (g := 46) (a := ja1) (b := jb1) ok (tI_lo _) (tI_hi _) (tI_lo _) (tI_hi _) hn2
  have kp3 : (∀ k f : Nat, Nat.testBit 510 (gpM k f) = true → nu2 k f = mu k f) := kp_2 hn2 (by decide) (by decide) (fun _ _ _ => rfl)
  refine lv_iconst (v := 0) hx hb dX12_digest_7 (by decide) ?_
  refine lv_istore_n (lv' := [(1, .int 0), (0, .ref (ad 0))]) hx hb dX12_digest_8 rfl hl (by decide) rfl (fun ls hl => ?_)
  have loop9 : ∀ (n9 : Nat) (v1_9 : Int32) (nu9_ : Nat → Nat → Int32) (H : Heap) (locs : List Loc) (ls : Array Slot), (9 + 1 - v1_9.toInt).toNat < n9 → (0 ≤ v1_9.toInt ∧ v1_9.toInt ≤ 9) → okR loM hiM nu9_ → va_P (dC, dI) vwCl (wR 21 ad (EM cs ad) nu9_) H → (∀ k f : Nat, Nat.testBit 510 (gpM k f) = true → nu9_ k f = mu k f) → va_S (va_A (wR 21 ad (EM cs ad) mu) s.heap.size) s.heap H locs → lv_has ls 3 [(1, .int v1_9), (0, .ref (ad 0))] → W p l e (headSpec (wU yX12_digest cX12_digest 3 (some .long)) ({ frames := 4, cells := 0, slots := 0, locals := 92 })).room s m ([.ref (ad 0)] : List Value).toArray below meth c H locs 0 0 (MQ below (va_Ql (fun (z : Int64) (xi : Nat → Nat → Int32) => okR loM hiM xi ∧ (True) ∧ (∀ k f : Nat, Nat.testBit 510 (gpM k f) = true → xi k f = mu k f)) (fun xi t => va_P (dC, dI) vwCl (wR 21 ad (EM cs ad) xi) t.heap) (va_A (wR 21 ad (EM cs ad) mu) s.heap.size)) ([.ref (ad 0)] : List Value).toArray s 0 0 (va_A (wR 21 ad (EM cs ad) mu) s.heap.size)) (F0 m 9 ls []) := by
    intro n9
    induction n9 with
    | zero => intro v1_9 nu9_ H locs ls hm; exact absurd hm (Nat.not_lt_zero _)
    | succ n9 ih9 =>
      intro v1_9 nu9_ H locs ls hm h_v1_9 ok hP kq9_0 hS hl
      refine lv_iload_n hx hb dX12_digest_9 rfl (lv_at hl 0 rfl) ?_
      refine lv_bipush (v := 8) hx hb dX12_digest_10 (by decide) ?_
      refine lv_icmp_gt (tgt := 30) hx hb dX12_digest_12 (by decide) (fun c_4 => ?_) (fun c_4 => ?_)
      · have c_4 : 8 < v1_9.toInt := il_lt c_4
        refine lv_aload_n hx hb dX12_digest_30 rfl (lv_at hl 1 rfl) ?_
        have hFc := fr_all (wR_D nu9_ hD) hS hA
        refine va_callv (va_runV (As := []) (rest := []) ⟨hx, hb, hml, hown, hts⟩ (sm_mixTown l dC dI cs ad nu9_ ok H hP ((wR_D nu9_ hD).weaken (fun _ _ _ _ => trivial))) (cwV 0 hts (wU_V mw_7_92 mw_7_89 mw_7_91 mw_0_67 mw_1_13) rfl rfl rfl (by decide +kernel) ⟨Nat.le_of_ble_eq_true rfl, Nat.le_of_ble_eq_true rfl⟩) ⟨sz_c, va_recv hK hP (ci := 12) (q0 := 0) rfl (gM_0 cs ad nu9_), sz_m hK hz⟩ rfl rfl hl.1 rfl (lv_room (Nat.le_of_ble_eq_true rfl)) dX12_digest_31 ⟨Nat.zero_le _, Nat.zero_le _⟩) hS (fun q _ h => hFc q h) hFc (fun xi5 t H5 locs ht hvm hw5 hB hz1 hk1 hS => ?_)
        have hP : va_P (dC, dI) vwCl (wR 21 ad (EM cs ad) xi5) H5 := by rw [← ht]; exact hB
        obtain ⟨ok, hw5, hkp5_0⟩ := hw5
        have kp6 : (∀ k f : Nat, Nat.testBit 510 (gpM k f) = true → xi5 k f = mu k f) := kp_t hkp5_0 (by decide) kq9_0
        refine lv_iconst (v := 0) hx hb dX12_digest_34 (by decide) ?_
        refine lv_istore_n (lv' := [(1, .int 0), (0, .ref (ad 0))]) hx hb dX12_digest_35 rfl hl (by decide) rfl (fun ls hl => ?_)
        have loop36 : ∀ (n36 : Nat) (v1_36 : Int32) (nu36_ : Nat → Nat → Int32) (H : Heap) (locs : List Loc) (ls : Array Slot), (6 + 1 - v1_36.toInt).toNat < n36 → (0 ≤ v1_36.toInt ∧ v1_36.toInt ≤ 6) → okR loM hiM nu36_ → va_P (dC, dI) vwCl (wR 21 ad (EM cs ad) nu36_) H → (∀ k f : Nat, Nat.testBit 510 (gpM k f) = true → nu36_ k f = mu k f) → va_S (va_A (wR 21 ad (EM cs ad) mu) s.heap.size) s.heap H locs → lv_has ls 3 [(1, .int v1_36), (0, .ref (ad 0))] → W p l e (headSpec (wU yX12_digest cX12_digest 3 (some .long)) ({ frames := 4, cells := 0, slots := 0, locals := 92 })).room s m ([.ref (ad 0)] : List Value).toArray below meth c H locs 0 0 (MQ below (va_Ql (fun (z : Int64) (xi : Nat → Nat → Int32) => okR loM hiM xi ∧ (True) ∧ (∀ k f : Nat, Nat.testBit 510 (gpM k f) = true → xi k f = mu k f)) (fun xi t => va_P (dC, dI) vwCl (wR 21 ad (EM cs ad) xi) t.heap) (va_A (wR 21 ad (EM cs ad) mu) s.heap.size)) ([.ref (ad 0)] : List Value).toArray s 0 0 (va_A (wR 21 ad (EM cs ad) mu) s.heap.size)) (F0 m 36 ls []) := by
          intro n36
          induction n36 with
          | zero => intro v1_36 nu36_ H locs ls hm; exact absurd hm (Nat.not_lt_zero _)
          | succ n36 ih36 =>
            intro v1_36 nu36_ H locs ls hm h_v1_36 ok hP kq36_0 hS hl
            refine lv_iload_n hx hb dX12_digest_36 rfl (lv_at hl 0 rfl) ?_
            refine lv_bipush (v := 6) hx hb dX12_digest_37 (by decide) ?_
            refine lv_icmp_ge (tgt := 99) hx hb dX12_digest_39 (by decide) (fun c_7 => ?_) (fun c_7 => ?_)
            · have c_7 : 6 ≤ v1_36.toInt := il_le c_7
              refine lv_iconst (v := 0) hx hb dX12_digest_99 (by decide) ?_
              refine lv_istore_n (lv' := [(1, .int 0), (0, .ref (ad 0))]) hx hb dX12_digest_100 rfl hl (by decide) rfl (fun ls hl => ?_)
              have loop101 : ∀ (n101 : Nat) (v1_101 : Int32) (nu101_ : Nat → Nat → Int32) (H : Heap) (locs : List Loc) (ls : Array Slot), (4 + 1 - v1_101.toInt).toNat < n101 → (0 ≤ v1_101.toInt ∧ v1_101.toInt ≤ 4) → okR loM hiM nu101_ → va_P (dC, dI) vwCl (wR 21 ad (EM cs ad) nu101_) H → (∀ k f : Nat, Nat.testBit 510 (gpM k f) = true → nu101_ k f = mu k f) → va_S (va_A (wR 21 ad (EM cs ad) mu) s.heap.size) s.heap H locs → lv_has ls 3 [(1, .int v1_101), (0, .ref (ad 0))] → W p l e (headSpec (wU yX12_digest cX12_digest 3 (some .long)) ({ frames := 4, cells := 0, slots := 0, locals := 92 })).room s m ([.ref (ad 0)] : List Value).toArray below meth c H locs 0 0 (MQ below (va_Ql (fun (z : Int64) (xi : Nat → Nat → Int32) => okR loM hiM xi ∧ (True) ∧ (∀ k f : Nat, Nat.testBit 510 (gpM k f) = true → xi k f = mu k f)) (fun xi t => va_P (dC, dI) vwCl (wR 21 ad (EM cs ad) xi) t.heap) (va_A (wR 21 ad (EM cs ad) mu) s.heap.size)) ([.ref (ad 0)] : List Value).toArray s 0 0 (va_A (wR 21 ad (EM cs ad) mu) s.heap.size)) (F0 m 101 ls []) := by
                intro n101
                induction n101 with
                | zero => intro v1_101 nu101_ H locs ls hm; exact absurd hm (Nat.not_lt_zero _)
                | succ n101 ih101 =>
                  intro v1_101 nu101_ H locs ls hm h_v1_101 ok hP kq101_0 hS hl
                  refine lv_iload_n hx hb dX12_digest_101 rfl (lv_at hl 0 rfl) ?_
                  refine lv_iconst (v := 4) hx hb dX12_digest_102 (by decide) ?_
                  refine lv_icmp_ge (tgt := 168) hx hb dX12_digest_103 (by decide) (fun c_8 => ?_) (fun c_8 => ?_)
                  · have c_8 : 4 ≤ v1_101.toInt := il_le c_8
                    refine lv_aload_n hx hb dX12_digest_168 rfl (lv_at hl 1 rfl) ?_
                    refine va_get (D := (dC, dI)) (ci := 12) (v := .long (jn (nu101_ 0 45) (nu101_ 0 46))) (C := RX12) (T := TX12) (N := 46) hx hb hts inG12 hown hK hP 0 (gM_0 cs ad nu101_) rfl 45 (by decide) (hts _ (List.mem_cons_of_mem _ mw_5_86)) (fun _ h9 => h9) rfl dX12_digest_169 ?_
                    refine lv_topl (fun l9 el9 => ?_)
                    exact W.lret (v := l9) hx hb hr (fun t ht hW => ⟨⟨l9, nu101_, rfl, ⟨ok, trivial, kq101_0⟩, by first | (subst ht; exact hP) | (rw [ht]; exact hP) | (show va_P (dC, dI) vwCl (wR 21 ad (EM cs ad) nu101_) t.heap; rw [ht]; exact hP)⟩, hS.F ht⟩) hS.2.2 dX12_digest_172
                  · have c_8 : v1_101.toInt < 4 := il_nle c_8
                    refine lv_aload_n hx hb dX12_digest_106 rfl (lv_at hl 1 rfl) ?_
                    refine lv_aload_n hx hb dX12_digest_107 rfl (lv_at hl 1 rfl) ?_
                    refine va_get (D := (dC, dI)) (ci := 12) (v := .ref (ad 5)) (C := RX12) (T := TX12) (N := 46) hx hb hts inG12 hown hK hP 0 (gM_0 cs ad nu101_) rfl 6 (by decide) (hts _ (List.mem_cons_of_mem _ mw_5_47)) (fun _ h9 => h9) rfl dX12_digest_108 ?_
                    refine lv_iload_n hx hb dX12_digest_111 rfl (lv_at hl 0 rfl) ?_
                    refine va_iald hx hb hK hP 5 0 (gM_5 cs ad nu101_) rfl (show vp_in v1_101 4 from vi_of (by omega) (by omega)) dX12_digest_112 ?_
                    refine lv_topi (fun y10 ey10 => ?_)
                    have by10 : y10.toInt = (nu101_ 5 v1_101.toNatClampNeg).toInt := congrArg Int32.toInt ey10
                    have gy10 : -9 ≤ y10.toInt ∧ y10.toInt ≤ 80 := by rw [ey10]; exact rM_5_s ok v1_101.toNatClampNeg
                    refine lv_if_ge (tgt := 120) hx hb dX12_digest_113 (by decide) (fun c_11 => ?_) (fun c_11 => ?_)
                    · have c_11 : 0 ≤ y10.toInt := il_le c_11
                      refine lv_aload_n hx hb dX12_digest_120 rfl (lv_at hl 1 rfl) ?_
                      refine va_get (D := (dC, dI)) (ci := 12) (v := .ref (ad 5)) (C := RX12) (T := TX12) (N := 46) hx hb hts inG12 hown hK hP 0 (gM_0 cs ad nu101_) rfl 6 (by decide) (hts _ (List.mem_cons_of_mem _ mw_5_47)) (fun _ h9 => h9) rfl dX12_digest_121 ?_
                      refine lv_iload_n hx hb dX12_digest_124 rfl (lv_at hl 0 rfl) ?_
                      refine va_iald hx hb hK hP 5 0 (gM_5 cs ad nu101_) rfl (show vp_in v1_101 4 from vi_of (by omega) (by omega)) dX12_digest_125 ?_
                      refine lq_i y10 ey10.symm ?_
                      have hFc := fr_all (wR_D nu101_ hD) hS hA
                      refine va_callv (va_runV (As := [.int y10]) (rest := []) ⟨hx, hb, hml, hown, hts⟩ (sm_mix l dC dI cs ad nu101_ ok H hP ((wR_D nu101_ hD).weaken (fun _ _ _ _ => trivial)) y10) (cwV 1 hts (wU_V mw_7_87 mw_7_84 mw_7_86 mw_0_66 mw_1_13) rfl rfl rfl (by decide +kernel) ⟨Nat.le_of_ble_eq_true rfl, Nat.le_of_ble_eq_true rfl⟩) ⟨sz_c, va_recv hK hP (ci := 12) (q0 := 0) rfl (gM_0 cs ad nu101_), sz_m hK hz⟩ rfl rfl hl.1 rfl (lv_room (Nat.le_of_ble_eq_true rfl)) dX12_digest_126 ⟨Nat.zero_le _, Nat.zero_le _⟩) hS (fun q _ h => hFc q h) hFc (fun xi12 t H12 locs ht hvm hw12 hB hz1 hk1 hS => ?_)
                      have hP : va_P (dC, dI) vwCl (wR 21 ad (EM cs ad) xi12) H12 := by rw [← ht]; exact hB
                      obtain ⟨ok, hw12, hkp12_0⟩ := hw12
                      have kp13 : (∀ k f : Nat, Nat.testBit 510 (gpM k f) = true → xi12 k f = mu k f) := kp_t hkp12_0 (by decide) kq101_0
                      refine lv_iconst (v := 0) hx hb dX12_digest_129 (by decide) ?_
                      refine lv_istore_n (lv' := [(2, .int 0), (1, .int v1_101), (0, .ref (ad 0))]) hx hb dX12_digest_130 rfl hl (by decide) rfl (fun ls hl => ?_)
                      have loop131 : ∀ (n131 : Nat) (v2_131 : Int32) (nu131_ : Nat → Nat → Int32) (H : Heap) (locs : List Loc) (ls : Array Slot), (80 + 1 - v2_131.toInt).toNat < n131 → (0 ≤ v2_131.toInt ∧ v2_131.toInt ≤ 80) → okR loM hiM nu131_ → va_P (dC, dI) vwCl (wR 21 ad (EM cs ad) nu131_) H → (∀ k f : Nat, Nat.testBit 510 (gpM k f) = true → nu131_ k f = mu k f) → va_S (va_A (wR 21 ad (EM cs ad) mu) s.heap.size) s.heap H locs → lv_has ls 3 [(2, .int v2_131), (1, .int v1_101), (0, .ref (ad 0))] → W p l e (headSpec (wU yX12_digest cX12_digest 3 (some .long)) ({ frames := 4, cells := 0, slots := 0, locals := 92 })).room s m ([.ref (ad 0)] : List Value).toArray below meth c H locs 0 0 (MQ below (va_Ql (fun (z : Int64) (xi : Nat → Nat → Int32) => okR loM hiM xi ∧ (True) ∧ (∀ k f : Nat, Nat.testBit 510 (gpM k f) = true → xi k f = mu k f)) (fun xi t => va_P (dC, dI) vwCl (wR 21 ad (EM cs ad) xi) t.heap) (va_A (wR 21 ad (EM cs ad) mu) s.heap.size)) ([.ref (ad 0)] : List Value).toArray s 0 0 (va_A (wR 21 ad (EM cs ad) mu) s.heap.size)) (F0 m 131 ls []) := by
                        intro n131
                        induction n131 with
                        | zero => intro v2_131 nu131_ H locs ls hm; exact absurd hm (Nat.not_lt_zero _)
                        | succ n131 ih131 =>
                          intro v2_131 nu131_ H locs ls hm h_v2_131 ok hP kq131_0 hS hl
                          refine lv_iload_n hx hb dX12_digest_131 rfl (lv_at hl 0 rfl) ?_
                          refine lv_aload_n hx hb dX12_digest_132 rfl (lv_at hl 2 rfl) ?_
                          refine va_get (D := (dC, dI)) (ci := 12) (v := .ref (ad 5)) (C := RX12) (T := TX12) (N := 46) hx hb hts inG12 hown hK hP 0 (gM_0 cs ad nu131_) rfl 6 (by decide) (hts _ (List.mem_cons_of_mem _ mw_5_47)) (fun _ h9 => h9) rfl dX12_digest_133 ?_
                          refine lv_iload_n hx hb dX12_digest_136 rfl (lv_at hl 1 rfl) ?_
                          refine va_iald hx hb hK hP 5 0 (gM_5 cs ad nu131_) rfl (show vp_in v1_101 4 from vi_of (by omega) (by omega)) dX12_digest_137 ?_
                          refine lv_topi (fun y14 ey14 => ?_)
                          have by14 : y14.toInt = (nu131_ 5 v1_101.toNatClampNeg).toInt := congrArg Int32.toInt ey14
                          have gy14 : -9 ≤ y14.toInt ∧ y14.toInt ≤ 80 := by rw [ey14]; exact rM_5_s ok v1_101.toNatClampNeg
                          refine lv_icmp_ge (tgt := 162) hx hb dX12_digest_138 (by decide) (fun c_15 => ?_) (fun c_15 => ?_)
                          · have c_15 : y14.toInt ≤ v2_131.toInt := il_le c_15
                            refine lv_iinc (v := (v1_101 + 1)) (lv' := [(1, .int (v1_101 + 1)), (2, .int v2_131), (0, .ref (ad 0))]) hx hb dX12_digest_162 hl (k := 1) rfl rfl (by decide) rfl (fun ls hl => ?_)
                            refine loc_gen (P := fun w9 => lv_has ls 3 [(1, .int w9), (2, .int v2_131), (0, .ref (ad 0))]) (v1_101 + 1) hl (fun w16 hw16 hl => ?_)
                            have hl : lv_has ls 3 [(1, .int w16), (2, .int v2_131), (0, .ref (ad 0))] := hl
                            have aw16 : w16.toInt = v1_101.toInt + 1 := by rw [← hw16]; exact tI_add (rfl : v1_101.toInt = _) (rfl : (1 : Int32).toInt = 1) (by omega) (by omega)
                            refine lv_goto (tgt := 101) hx hb dX12_digest_165 (by decide) ?_
                            exact ih101 (w16) nu131_ _ _ _ (by omega) (by exact ⟨by omega, by omega⟩)  ok hP  kq131_0 hS (lv_sub hl [0, 2] rfl)
                          · have c_15 : v2_131.toInt < y14.toInt := il_nle c_15
                            refine lv_aload_n hx hb dX12_digest_141 rfl (lv_at hl 2 rfl) ?_
                            refine lv_aload_n hx hb dX12_digest_142 rfl (lv_at hl 2 rfl) ?_
                            refine va_get (D := (dC, dI)) (ci := 12) (v := .ref (ad 6)) (C := RX12) (T := TX12) (N := 46) hx hb hts inG12 hown hK hP 0 (gM_0 cs ad nu131_) rfl 7 (by decide) (hts _ (List.mem_cons_of_mem _ mw_5_48)) (fun _ h9 => h9) rfl dX12_digest_143 ?_
                            refine lv_bipush (v := 80) hx hb dX12_digest_146 (by decide) ?_
                            refine lv_iload_n hx hb dX12_digest_148 rfl (lv_at hl 1 rfl) ?_
                            refine lv_imul hx hb dX12_digest_149 ?_
                            refine lv_topi (fun t17 et17 => ?_)
                            have at17 : t17.toInt = 80 * v1_101.toInt := by rw [et17]; exact tI_mul (rfl : (80 : Int32).toInt = 80) (rfl : v1_101.toInt = _) (by omega) (by omega)
                            refine lv_iload_n hx hb dX12_digest_150 rfl (lv_at hl 0 rfl) ?_
                            refine lv_iadd hx hb dX12_digest_151 ?_
                            refine lv_topi (fun t18 et18 => ?_)
                            have at18 : t18.toInt = t17.toInt + v2_131.toInt := by rw [et18]; exact tI_add (rfl : t17.toInt = _) (rfl : v2_131.toInt = _) (by omega) (by omega)
                            refine va_iald hx hb hK hP 6 0 (gM_6 cs ad nu131_) rfl (show vp_in t18 320 from vi_of (by omega) (by omega)) dX12_digest_152 ?_
                            refine lv_topi (fun y19 ey19 => ?_)
                            have by19 : y19.toInt = (nu131_ 6 t18.toNatClampNeg).toInt := congrArg Int32.toInt ey19
                            have hFc := fr_all (wR_D nu131_ hD) hS hA
                            refine va_callv (va_runV (As := [.int y19]) (rest := []) ⟨hx, hb, hml, hown, hts⟩ (sm_mix l dC dI cs ad nu131_ ok H hP ((wR_D nu131_ hD).weaken (fun _ _ _ _ => trivial)) y19) (cwV 1 hts (wU_V mw_7_87 mw_7_84 mw_7_86 mw_0_66 mw_1_13) rfl rfl rfl (by decide +kernel) ⟨Nat.le_of_ble_eq_true rfl, Nat.le_of_ble_eq_true rfl⟩) ⟨sz_c, va_recv hK hP (ci := 12) (q0 := 0) rfl (gM_0 cs ad nu131_), sz_m hK hz⟩ rfl rfl hl.1 rfl (lv_room (Nat.le_of_ble_eq_true rfl)) dX12_digest_153 ⟨Nat.zero_le _, Nat.zero_le _⟩) hS (fun q _ h => hFc q h) hFc (fun xi20 t H20 locs ht hvm hw20 hB hz1 hk1 hS => ?_)
                            have hP : va_P (dC, dI) vwCl (wR 21 ad (EM cs ad) xi20) H20 := by rw [← ht]; exact hB
                            obtain ⟨ok, hw20, hkp20_0⟩ := hw20
                            have kp21 : (∀ k f : Nat, Nat.testBit 510 (gpM k f) = true → xi20 k f = mu k f) := kp_t hkp20_0 (by decide) kq131_0
                            refine lv_iinc (v := (v2_131 + 1)) (lv' := [(2, .int (v2_131 + 1)), (1, .int v1_101), (0, .ref (ad 0))]) hx hb dX12_digest_156 hl (k := 0) rfl rfl (by decide) rfl (fun ls hl => ?_)
                            refine loc_gen (P := fun w9 => lv_has ls 3 [(2, .int w9), (1, .int v1_101), (0, .ref (ad 0))]) (v2_131 + 1) hl (fun w22 hw22 hl => ?_)
                            have hl : lv_has ls 3 [(2, .int w22), (1, .int v1_101), (0, .ref (ad 0))] := hl
                            have aw22 : w22.toInt = v2_131.toInt + 1 := by rw [← hw22]; exact tI_add (rfl : v2_131.toInt = _) (rfl : (1 : Int32).toInt = 1) (by omega) (by omega)
                            refine lv_goto (tgt := 131) hx hb dX12_digest_159 (by decide) ?_
                            exact ih131 (w22) xi20 _ _ _ (by omega) (by exact ⟨by omega, by omega⟩)  ok hP  kp21 hS (lv_sub hl [0, 1, 2] rfl)
                      exact loop131 ((80 + 1 - (0 : Int32).toInt).toNat + 1) (0) xi12 _ _ _ (Nat.lt_succ_self _) (by have h80 : (0 : Int32).toInt = 0 := rfl; exact ⟨by omega, by omega⟩)  ok hP  kp13 hS hl
                    · have c_11 : y10.toInt < 0 := il_nle c_11
                      refine lv_iconst (v := (-1)) hx hb dX12_digest_116 (by decide) ?_
                      refine lv_goto (tgt := 126) hx hb dX12_digest_117 (by decide) ?_
                      have hFc := fr_all (wR_D nu101_ hD) hS hA
                      refine va_callv (va_runV (As := [.int (-1)]) (rest := []) ⟨hx, hb, hml, hown, hts⟩ (sm_mix l dC dI cs ad nu101_ ok H hP ((wR_D nu101_ hD).weaken (fun _ _ _ _ => trivial)) (-1)) (cwV 1 hts (wU_V mw_7_87 mw_7_84 mw_7_86 mw_0_66 mw_1_13) rfl rfl rfl (by decide +kernel) ⟨Nat.le_of_ble_eq_true rfl, Nat.le_of_ble_eq_true rfl⟩) ⟨sz_c, va_recv hK hP (ci := 12) (q0 := 0) rfl (gM_0 cs ad nu101_), sz_m hK hz⟩ rfl rfl hl.1 rfl (lv_room (Nat.le_of_ble_eq_true rfl)) dX12_digest_126 ⟨Nat.zero_le _, Nat.zero_le _⟩) hS (fun q _ h => hFc q h) hFc (fun xi23 t H23 locs ht hvm hw23 hB hz1 hk1 hS => ?_)
                      have hP : va_P (dC, dI) vwCl (wR 21 ad (EM cs ad) xi23) H23 := by rw [← ht]; exact hB
                      obtain ⟨ok, hw23, hkp23_0⟩ := hw23
                      have kp24 : (∀ k f : Nat, Nat.testBit 510 (gpM k f) = true → xi23 k f = mu k f) := kp_t hkp23_0 (by decide) kq101_0
                      refine lv_iconst (v := 0) hx hb dX12_digest_129 (by decide) ?_
                      refine lv_istore_n (lv' := [(2, .int 0), (1, .int v1_101), (0, .ref (ad 0))]) hx hb dX12_digest_130 rfl hl (by decide) rfl (fun ls hl => ?_)
                      have loop131 : ∀ (n131 : Nat) (v2_131 : Int32) (nu131_ : Nat → Nat → Int32) (H : Heap) (locs : List Loc) (ls : Array Slot), (80 + 1 - v2_131.toInt).toNat < n131 → (0 ≤ v2_131.toInt ∧ v2_131.toInt ≤ 80) → okR loM hiM nu131_ → va_P (dC, dI) vwCl (wR 21 ad (EM cs ad) nu131_) H → (∀ k f : Nat, Nat.testBit 510 (gpM k f) = true → nu131_ k f = mu k f) → va_S (va_A (wR 21 ad (EM cs ad) mu) s.heap.size) s.heap H locs → lv_has ls 3 [(2, .int v2_131), (1, .int v1_101), (0, .ref (ad 0))] → W p l e (headSpec (wU yX12_digest cX12_digest 3 (some .long)) ({ frames := 4, cells := 0, slots := 0, locals := 92 })).room s m ([.ref (ad 0)] : List Value).toArray below meth c H locs 0 0 (MQ below (va_Ql (fun (z : Int64) (xi : Nat → Nat → Int32) => okR loM hiM xi ∧ (True) ∧ (∀ k f : Nat, Nat.testBit 510 (gpM k f) = true → xi k f = mu k f)) (fun xi t => va_P (dC, dI) vwCl (wR 21 ad (EM cs ad) xi) t.heap) (va_A (wR 21 ad (EM cs ad) mu) s.heap.size)) ([.ref (ad 0)] : List Value).toArray s 0 0 (va_A (wR 21 ad (EM cs ad) mu) s.heap.size)) (F0 m 131 ls []) := by
                        intro n131
                        induction n131 with
                        | zero => intro v2_131 nu131_ H locs ls hm; exact absurd hm (Nat.not_lt_zero _)
                        | succ n131 ih131 =>
                          intro v2_131 nu131_ H locs ls hm h_v2_131 ok hP kq131_0 hS hl
                          refine lv_iload_n hx hb dX12_digest_131 rfl (lv_at hl 0 rfl) ?_
                          refine lv_aload_n hx hb dX12_digest_132 rfl (lv_at hl 2 rfl) ?_
                          refine va_get (D := (dC, dI)) (ci := 12) (v := .ref (ad 5)) (C := RX12) (T := TX12) (N := 46) hx hb hts inG12 hown hK hP 0 (gM_0 cs ad nu131_) rfl 6 (by decide) (hts _ (List.mem_cons_of_mem _ mw_5_47)) (fun _ h9 => h9) rfl dX12_digest_133 ?_
                          refine lv_iload_n hx hb dX12_digest_136 rfl (lv_at hl 1 rfl) ?_
                          refine va_iald hx hb hK hP 5 0 (gM_5 cs ad nu131_) rfl (show vp_in v1_101 4 from vi_of (by omega) (by omega)) dX12_digest_137 ?_
                          refine lv_topi (fun y25 ey25 => ?_)
                          have by25 : y25.toInt = (nu131_ 5 v1_101.toNatClampNeg).toInt := congrArg Int32.toInt ey25
                          have gy25 : -9 ≤ y25.toInt ∧ y25.toInt ≤ 80 := by rw [ey25]; exact rM_5_s ok v1_101.toNatClampNeg
                          refine lv_icmp_ge (tgt := 162) hx hb dX12_digest_138 (by decide) (fun c_26 => ?_) (fun c_26 => ?_)
                          · have c_26 : y25.toInt ≤ v2_131.toInt := il_le c_26
                            refine lv_iinc (v := (v1_101 + 1)) (lv' := [(1, .int (v1_101 + 1)), (2, .int v2_131), (0, .ref (ad 0))]) hx hb dX12_digest_162 hl (k := 1) rfl rfl (by decide) rfl (fun ls hl => ?_)
                            refine loc_gen (P := fun w9 => lv_has ls 3 [(1, .int w9), (2, .int v2_131), (0, .ref (ad 0))]) (v1_101 + 1) hl (fun w27 hw27 hl => ?_)
                            have hl : lv_has ls 3 [(1, .int w27), (2, .int v2_131), (0, .ref (ad 0))] := hl
                            have aw27 : w27.toInt = v1_101.toInt + 1 := by rw [← hw27]; exact tI_add (rfl : v1_101.toInt = _) (rfl : (1 : Int32).toInt = 1) (by omega) (by omega)
                            refine lv_goto (tgt := 101) hx hb dX12_digest_165 (by decide) ?_
                            exact ih101 (w27) nu131_ _ _ _ (by omega) (by exact ⟨by omega, by omega⟩)  ok hP  kq131_0 hS (lv_sub hl [0, 2] rfl)
                          · have c_26 : v2_131.toInt < y25.toInt := il_nle c_26
                            refine lv_aload_n hx hb dX12_digest_141 rfl (lv_at hl 2 rfl) ?_
                            refine lv_aload_n hx hb dX12_digest_142 rfl (lv_at hl 2 rfl) ?_
                            refine va_get (D := (dC, dI)) (ci := 12) (v := .ref (ad 6)) (C := RX12) (T := TX12) (N := 46) hx hb hts inG12 hown hK hP 0 (gM_0 cs ad nu131_) rfl 7 (by decide) (hts _ (List.mem_cons_of_mem _ mw_5_48)) (fun _ h9 => h9) rfl dX12_digest_143 ?_
                            refine lv_bipush (v := 80) hx hb dX12_digest_146 (by decide) ?_
                            refine lv_iload_n hx hb dX12_digest_148 rfl (lv_at hl 1 rfl) ?_
                            refine lv_imul hx hb dX12_digest_149 ?_
                            refine lv_topi (fun t28 et28 => ?_)
                            have at28 : t28.toInt = 80 * v1_101.toInt := by rw [et28]; exact tI_mul (rfl : (80 : Int32).toInt = 80) (rfl : v1_101.toInt = _) (by omega) (by omega)
                            refine lv_iload_n hx hb dX12_digest_150 rfl (lv_at hl 0 rfl) ?_
                            refine lv_iadd hx hb dX12_digest_151 ?_
                            refine lv_topi (fun t29 et29 => ?_)
                            have at29 : t29.toInt = t28.toInt + v2_131.toInt := by rw [et29]; exact tI_add (rfl : t28.toInt = _) (rfl : v2_131.toInt = _) (by omega) (by omega)
                            refine va_iald hx hb hK hP 6 0 (gM_6 cs ad nu131_) rfl (show vp_in t29 320 from vi_of (by omega) (by omega)) dX12_digest_152 ?_
                            refine lv_topi (fun y30 ey30 => ?_)
                            have by30 : y30.toInt = (nu131_ 6 t29.toNatClampNeg).toInt := congrArg Int32.toInt ey30
                            have hFc := fr_all (wR_D nu131_ hD) hS hA
                            refine va_callv (va_runV (As := [.int y30]) (rest := []) ⟨hx, hb, hml, hown, hts⟩ (sm_mix l dC dI cs ad nu131_ ok H hP ((wR_D nu131_ hD).weaken (fun _ _ _ _ => trivial)) y30) (cwV 1 hts (wU_V mw_7_87 mw_7_84 mw_7_86 mw_0_66 mw_1_13) rfl rfl rfl (by decide +kernel) ⟨Nat.le_of_ble_eq_true rfl, Nat.le_of_ble_eq_true rfl⟩) ⟨sz_c, va_recv hK hP (ci := 12) (q0 := 0) rfl (gM_0 cs ad nu131_), sz_m hK hz⟩ rfl rfl hl.1 rfl (lv_room (Nat.le_of_ble_eq_true rfl)) dX12_digest_153 ⟨Nat.zero_le _, Nat.zero_le _⟩) hS (fun q _ h => hFc q h) hFc (fun xi31 t H31 locs ht hvm hw31 hB hz1 hk1 hS => ?_)
                            have hP : va_P (dC, dI) vwCl (wR 21 ad (EM cs ad) xi31) H31 := by rw [← ht]; exact hB
                            obtain ⟨ok, hw31, hkp31_0⟩ := hw31
                            have kp32 : (∀ k f : Nat, Nat.testBit 510 (gpM k f) = true → xi31 k f = mu k f) := kp_t hkp31_0 (by decide) kq131_0
                            refine lv_iinc (v := (v2_131 + 1)) (lv' := [(2, .int (v2_131 + 1)), (1, .int v1_101), (0, .ref (ad 0))]) hx hb dX12_digest_156 hl (k := 0) rfl rfl (by decide) rfl (fun ls hl => ?_)
                            refine loc_gen (P := fun w9 => lv_has ls 3 [(2, .int w9), (1, .int v1_101), (0, .ref (ad 0))]) (v2_131 + 1) hl (fun w33 hw33 hl => ?_)
                            have hl : lv_has ls 3 [(2, .int w33), (1, .int v1_101), (0, .ref (ad 0))] := hl
                            have aw33 : w33.toInt = v2_131.toInt + 1 := by rw [← hw33]; exact tI_add (rfl : v2_131.toInt = _) (rfl : (1 : Int32).toInt = 1) (by omega) (by omega)
                            refine lv_goto (tgt := 131) hx hb dX12_digest_159 (by decide) ?_
                            exact ih131 (w33) xi31 _ _ _ (by omega) (by exact ⟨by omega, by omega⟩)  ok hP  kp32 hS (lv_sub hl [0, 1, 2] rfl)
                      exact loop131 ((80 + 1 - (0 : Int32).toInt).toNat + 1) (0) xi23 _ _ _ (Nat.lt_succ_self _) (by have h80 : (0 : Int32).toInt = 0 := rfl; exact ⟨by omega, by omega⟩)  ok hP  kp24 hS hl
              exact loop101 ((4 + 1 - (0 : Int32).toInt).toNat + 1) (0) nu36_ _ _ _ (Nat.lt_succ_self _) (by have h80 : (0 : Int32).toInt = 0 := rfl; exact ⟨by omega, by omega⟩)  ok hP  kq36_0 hS hl
            · have c_7 : v1_36.toInt < 6 := il_nle c_7
              refine lv_aload_n hx hb dX12_digest_42 rfl (lv_at hl 1 rfl) ?_
              refine lv_aload_n hx hb dX12_digest_43 rfl (lv_at hl 1 rfl) ?_
              refine va_get (D := (dC, dI)) (ci := 12) (v := .ref (ad 2)) (C := RX12) (T := TX12) (N := 46) hx hb hts inG12 hown hK hP 0 (gM_0 cs ad nu36_) rfl 3 (by decide) (hts _ (List.mem_cons_of_mem _ mw_5_44)) (fun _ h9 => h9) rfl dX12_digest_44 ?_
              refine lv_iload_n hx hb dX12_digest_47 rfl (lv_at hl 0 rfl) ?_
              refine va_iald hx hb hK hP 2 0 (gM_2 cs ad nu36_) rfl (show vp_in v1_36 6 from vi_of (by omega) (by omega)) dX12_digest_48 ?_
              refine lv_topi (fun y34 ey34 => ?_)
              have by34 : y34.toInt = (nu36_ 2 v1_36.toNatClampNeg).toInt := congrArg Int32.toInt ey34
              have gy34 : -9 ≤ y34.toInt ∧ y34.toInt ≤ 40 := by rw [ey34]; exact rM_2_s ok v1_36.toNatClampNeg
              refine lv_if_ge (tgt := 56) hx hb dX12_digest_49 (by decide) (fun c_35 => ?_) (fun c_35 => ?_)
              · have c_35 : 0 ≤ y34.toInt := il_le c_35
                refine lv_aload_n hx hb dX12_digest_56 rfl (lv_at hl 1 rfl) ?_
                refine va_get (D := (dC, dI)) (ci := 12) (v := .ref (ad 2)) (C := RX12) (T := TX12) (N := 46) hx hb hts inG12 hown hK hP 0 (gM_0 cs ad nu36_) rfl 3 (by decide) (hts _ (List.mem_cons_of_mem _ mw_5_44)) (fun _ h9 => h9) rfl dX12_digest_57 ?_
                refine lv_iload_n hx hb dX12_digest_60 rfl (lv_at hl 0 rfl) ?_
                refine va_iald hx hb hK hP 2 0 (gM_2 cs ad nu36_) rfl (show vp_in v1_36 6 from vi_of (by omega) (by omega)) dX12_digest_61 ?_
                refine lq_i y34 ey34.symm ?_
                have hFc := fr_all (wR_D nu36_ hD) hS hA
                refine va_callv (va_runV (As := [.int y34]) (rest := []) ⟨hx, hb, hml, hown, hts⟩ (sm_mix l dC dI cs ad nu36_ ok H hP ((wR_D nu36_ hD).weaken (fun _ _ _ _ => trivial)) y34) (cwV 1 hts (wU_V mw_7_87 mw_7_84 mw_7_86 mw_0_66 mw_1_13) rfl rfl rfl (by decide +kernel) ⟨Nat.le_of_ble_eq_true rfl, Nat.le_of_ble_eq_true rfl⟩) ⟨sz_c, va_recv hK hP (ci := 12) (q0 := 0) rfl (gM_0 cs ad nu36_), sz_m hK hz⟩ rfl rfl hl.1 rfl (lv_room (Nat.le_of_ble_eq_true rfl)) dX12_digest_62 ⟨Nat.zero_le _, Nat.zero_le _⟩) hS (fun q _ h => hFc q h) hFc (fun xi36 t H36 locs ht hvm hw36 hB hz1 hk1 hS => ?_)
                have hP : va_P (dC, dI) vwCl (wR 21 ad (EM cs ad) xi36) H36 := by rw [← ht]; exact hB
                obtain ⟨ok, hw36, hkp36_0⟩ := hw36
                have kp37 : (∀ k f : Nat, Nat.testBit 510 (gpM k f) = true → xi36 k f = mu k f) := kp_t hkp36_0 (by decide) kq36_0
                refine lv_iconst (v := 0) hx hb dX12_digest_65 (by decide) ?_
                refine lv_istore_n (lv' := [(2, .int 0), (1, .int v1_36), (0, .ref (ad 0))]) hx hb dX12_digest_66 rfl hl (by decide) rfl (fun ls hl => ?_)
                have loop67 : ∀ (n67 : Nat) (v2_67 : Int32) (nu67_ : Nat → Nat → Int32) (H : Heap) (locs : List Loc) (ls : Array Slot), (40 + 1 - v2_67.toInt).toNat < n67 → (0 ≤ v2_67.toInt ∧ v2_67.toInt ≤ 40) → okR loM hiM nu67_ → va_P (dC, dI) vwCl (wR 21 ad (EM cs ad) nu67_) H → (∀ k f : Nat, Nat.testBit 510 (gpM k f) = true → nu67_ k f = mu k f) → va_S (va_A (wR 21 ad (EM cs ad) mu) s.heap.size) s.heap H locs → lv_has ls 3 [(2, .int v2_67), (1, .int v1_36), (0, .ref (ad 0))] → W p l e (headSpec (wU yX12_digest cX12_digest 3 (some .long)) ({ frames := 4, cells := 0, slots := 0, locals := 92 })).room s m ([.ref (ad 0)] : List Value).toArray below meth c H locs 0 0 (MQ below (va_Ql (fun (z : Int64) (xi : Nat → Nat → Int32) => okR loM hiM xi ∧ (True) ∧ (∀ k f : Nat, Nat.testBit 510 (gpM k f) = true → xi k f = mu k f)) (fun xi t => va_P (dC, dI) vwCl (wR 21 ad (EM cs ad) xi) t.heap) (va_A (wR 21 ad (EM cs ad) mu) s.heap.size)) ([.ref (ad 0)] : List Value).toArray s 0 0 (va_A (wR 21 ad (EM cs ad) mu) s.heap.size)) (F0 m 67 ls []) := by
                  intro n67
                  induction n67 with
                  | zero => intro v2_67 nu67_ H locs ls hm; exact absurd hm (Nat.not_lt_zero _)
                  | succ n67 ih67 =>
                    intro v2_67 nu67_ H locs ls hm h_v2_67 ok hP kq67_0 hS hl
                    refine lv_iload_n hx hb dX12_digest_67 rfl (lv_at hl 0 rfl) ?_
                    refine lv_aload_n hx hb dX12_digest_68 rfl (lv_at hl 2 rfl) ?_
                    refine va_get (D := (dC, dI)) (ci := 12) (v := .ref (ad 2)) (C := RX12) (T := TX12) (N := 46) hx hb hts inG12 hown hK hP 0 (gM_0 cs ad nu67_) rfl 3 (by decide) (hts _ (List.mem_cons_of_mem _ mw_5_44)) (fun _ h9 => h9) rfl dX12_digest_69 ?_
                    refine lv_iload_n hx hb dX12_digest_72 rfl (lv_at hl 1 rfl) ?_
                    refine va_iald hx hb hK hP 2 0 (gM_2 cs ad nu67_) rfl (show vp_in v1_36 6 from vi_of (by omega) (by omega)) dX12_digest_73 ?_
                    refine lv_topi (fun y38 ey38 => ?_)
                    have by38 : y38.toInt = (nu67_ 2 v1_36.toNatClampNeg).toInt := congrArg Int32.toInt ey38
                    have gy38 : -9 ≤ y38.toInt ∧ y38.toInt ≤ 40 := by rw [ey38]; exact rM_2_s ok v1_36.toNatClampNeg
                    refine lv_icmp_ge (tgt := 93) hx hb dX12_digest_74 (by decide) (fun c_39 => ?_) (fun c_39 => ?_)
                    · have c_39 : y38.toInt ≤ v2_67.toInt := il_le c_39
                      refine lv_iinc (v := (v1_36 + 1)) (lv' := [(1, .int (v1_36 + 1)), (2, .int v2_67), (0, .ref (ad 0))]) hx hb dX12_digest_93 hl (k := 1) rfl rfl (by decide) rfl (fun ls hl => ?_)
                      refine loc_gen (P := fun w9 => lv_has ls 3 [(1, .int w9), (2, .int v2_67), (0, .ref (ad 0))]) (v1_36 + 1) hl (fun w40 hw40 hl => ?_)
                      have hl : lv_has ls 3 [(1, .int w40), (2, .int v2_67), (0, .ref (ad 0))] := hl
                      have aw40 : w40.toInt = v1_36.toInt + 1 := by rw [← hw40]; exact tI_add (rfl : v1_36.toInt = _) (rfl : (1 : Int32).toInt = 1) (by omega) (by omega)
                      refine lv_goto (tgt := 36) hx hb dX12_digest_96 (by decide) ?_
                      exact ih36 (w40) nu67_ _ _ _ (by omega) (by exact ⟨by omega, by omega⟩)  ok hP  kq67_0 hS (lv_sub hl [0, 2] rfl)
                    · have c_39 : v2_67.toInt < y38.toInt := il_nle c_39
                      refine lv_aload_n hx hb dX12_digest_77 rfl (lv_at hl 2 rfl) ?_
                      refine lv_aload_n hx hb dX12_digest_78 rfl (lv_at hl 2 rfl) ?_
                      refine lv_iload_n hx hb dX12_digest_79 rfl (lv_at hl 1 rfl) ?_
                      refine lv_iload_n hx hb dX12_digest_80 rfl (lv_at hl 0 rfl) ?_
                      refine cr_i (va_runV (As := [.int v1_36, .int v2_67]) (rest := [.ref (ad 0)]) ⟨hx, hb, hml, hown, hts⟩ (sm_rowAt l dC dI cs ad nu67_ ok H hP v1_36 v2_67 (by omega)) (cwV 2 hts (wU_V mw_5_209 mw_5_206 mw_5_208 mw_0_29 mw_1_13) rfl rfl rfl (by decide +kernel) ⟨Nat.le_of_ble_eq_true rfl, Nat.le_of_ble_eq_true rfl⟩) ⟨sz_c, va_recv hK hP (ci := 12) (q0 := 0) rfl (gM_0 cs ad nu67_), sz_m hK hz⟩ rfl rfl hl.1 rfl (lv_room (Nat.le_of_ble_eq_true rfl)) dX12_digest_81 ⟨Nat.zero_le _, Nat.zero_le _⟩) hS (fun r41 hw41 locs hS => ?_)
                      have hFc := fr_all (wR_D nu67_ hD) hS hA
                      refine va_callv (va_runV (As := [.int r41]) (rest := []) ⟨hx, hb, hml, hown, hts⟩ (sm_mix l dC dI cs ad nu67_ ok H hP ((wR_D nu67_ hD).weaken (fun _ _ _ _ => trivial)) r41) (cwV 1 hts (wU_V mw_7_87 mw_7_84 mw_7_86 mw_0_66 mw_1_13) rfl rfl rfl (by decide +kernel) ⟨Nat.le_of_ble_eq_true rfl, Nat.le_of_ble_eq_true rfl⟩) ⟨sz_c, va_recv hK hP (ci := 12) (q0 := 0) rfl (gM_0 cs ad nu67_), sz_m hK hz⟩ rfl rfl hl.1 rfl (lv_room (Nat.le_of_ble_eq_true rfl)) dX12_digest_84 ⟨Nat.zero_le _, Nat.zero_le _⟩) hS (fun q _ h => hFc q h) hFc (fun xi42 t H42 locs ht hvm hw42 hB hz1 hk1 hS => ?_)
                      have hP : va_P (dC, dI) vwCl (wR 21 ad (EM cs ad) xi42) H42 := by rw [← ht]; exact hB
                      obtain ⟨ok, hw42, hkp42_0⟩ := hw42
                      have kp43 : (∀ k f : Nat, Nat.testBit 510 (gpM k f) = true → xi42 k f = mu k f) := kp_t hkp42_0 (by decide) kq67_0
                      refine lv_iinc (v := (v2_67 + 1)) (lv' := [(2, .int (v2_67 + 1)), (1, .int v1_36), (0, .ref (ad 0))]) hx hb dX12_digest_87 hl (k := 0) rfl rfl (by decide) rfl (fun ls hl => ?_)
                      refine loc_gen (P := fun w9 => lv_has ls 3 [(2, .int w9), (1, .int v1_36), (0, .ref (ad 0))]) (v2_67 + 1) hl (fun w44 hw44 hl => ?_)
                      have hl : lv_has ls 3 [(2, .int w44), (1, .int v1_36), (0, .ref (ad 0))] := hl
                      have aw44 : w44.toInt = v2_67.toInt + 1 := by rw [← hw44]; exact tI_add (rfl : v2_67.toInt = _) (rfl : (1 : Int32).toInt = 1) (by omega) (by omega)
                      refine lv_goto (tgt := 67) hx hb dX12_digest_90 (by decide) ?_
                      exact ih67 (w44) xi42 _ _ _ (by omega) (by exact ⟨by omega, by omega⟩)  ok hP  kp43 hS (lv_sub hl [0, 1, 2] rfl)
                exact loop67 ((40 + 1 - (0 : Int32).toInt).toNat + 1) (0) xi36 _ _ _ (Nat.lt_succ_self _) (by have h80 : (0 : Int32).toInt = 0 := rfl; exact ⟨by omega, by omega⟩)  ok hP  kp37 hS hl
              · have c_35 : y34.toInt < 0 := il_nle c_35
                refine lv_iconst (v := (-1)) hx hb dX12_digest_52 (by decide) ?_
                refine lv_goto (tgt := 62) hx hb dX12_digest_53 (by decide) ?_
                have hFc := fr_all (wR_D nu36_ hD) hS hA
                refine va_callv (va_runV (As := [.int (-1)]) (rest := []) ⟨hx, hb, hml, hown, hts⟩ (sm_mix l dC dI cs ad nu36_ ok H hP ((wR_D nu36_ hD).weaken (fun _ _ _ _ => trivial)) (-1)) (cwV 1 hts (wU_V mw_7_87 mw_7_84 mw_7_86 mw_0_66 mw_1_13) rfl rfl rfl (by decide +kernel) ⟨Nat.le_of_ble_eq_true rfl, Nat.le_of_ble_eq_true rfl⟩) ⟨sz_c, va_recv hK hP (ci := 12) (q0 := 0) rfl (gM_0 cs ad nu36_), sz_m hK hz⟩ rfl rfl hl.1 rfl (lv_room (Nat.le_of_ble_eq_true rfl)) dX12_digest_62 ⟨Nat.zero_le _, Nat.zero_le _⟩) hS (fun q _ h => hFc q h) hFc (fun xi45 t H45 locs ht hvm hw45 hB hz1 hk1 hS => ?_)
                have hP : va_P (dC, dI) vwCl (wR 21 ad (EM cs ad) xi45) H45 := by rw [← ht]; exact hB
                obtain ⟨ok, hw45, hkp45_0⟩ := hw45
                have kp46 : (∀ k f : Nat, Nat.testBit 510 (gpM k f) = true → xi45 k f = mu k f) := kp_t hkp45_0 (by decide) kq36_0
                refine lv_iconst (v := 0) hx hb dX12_digest_65 (by decide) ?_
                refine lv_istore_n (lv' := [(2, .int 0), (1, .int v1_36), (0, .ref (ad 0))]) hx hb dX12_digest_66 rfl hl (by decide) rfl (fun ls hl => ?_)
                have loop67 : ∀ (n67 : Nat) (v2_67 : Int32) (nu67_ : Nat → Nat → Int32) (H : Heap) (locs : List Loc) (ls : Array Slot), (40 + 1 - v2_67.toInt).toNat < n67 → (0 ≤ v2_67.toInt ∧ v2_67.toInt ≤ 40) → okR loM hiM nu67_ → va_P (dC, dI) vwCl (wR 21 ad (EM cs ad) nu67_) H → (∀ k f : Nat, Nat.testBit 510 (gpM k f) = true → nu67_ k f = mu k f) → va_S (va_A (wR 21 ad (EM cs ad) mu) s.heap.size) s.heap H locs → lv_has ls 3 [(2, .int v2_67), (1, .int v1_36), (0, .ref (ad 0))] → W p l e (headSpec (wU yX12_digest cX12_digest 3 (some .long)) ({ frames := 4, cells := 0, slots := 0, locals := 92 })).room s m ([.ref (ad 0)] : List Value).toArray below meth c H locs 0 0 (MQ below (va_Ql (fun (z : Int64) (xi : Nat → Nat → Int32) => okR loM hiM xi ∧ (True) ∧ (∀ k f : Nat, Nat.testBit 510 (gpM k f) = true → xi k f = mu k f)) (fun xi t => va_P (dC, dI) vwCl (wR 21 ad (EM cs ad) xi) t.heap) (va_A (wR 21 ad (EM cs ad) mu) s.heap.size)) ([.ref (ad 0)] : List Value).toArray s 0 0 (va_A (wR 21 ad (EM cs ad) mu) s.heap.size)) (F0 m 67 ls []) := by
                  intro n67
                  induction n67 with
                  | zero => intro v2_67 nu67_ H locs ls hm; exact absurd hm (Nat.not_lt_zero _)
                  | succ n67 ih67 =>
                    intro v2_67 nu67_ H locs ls hm h_v2_67 ok hP kq67_0 hS hl
                    refine lv_iload_n hx hb dX12_digest_67 rfl (lv_at hl 0 rfl) ?_
                    refine lv_aload_n hx hb dX12_digest_68 rfl (lv_at hl 2 rfl) ?_
                    refine va_get (D := (dC, dI)) (ci := 12) (v := .ref (ad 2)) (C := RX12) (T := TX12) (N := 46) hx hb hts inG12 hown hK hP 0 (gM_0 cs ad nu67_) rfl 3 (by decide) (hts _ (List.mem_cons_of_mem _ mw_5_44)) (fun _ h9 => h9) rfl dX12_digest_69 ?_
                    refine lv_iload_n hx hb dX12_digest_72 rfl (lv_at hl 1 rfl) ?_
                    refine va_iald hx hb hK hP 2 0 (gM_2 cs ad nu67_) rfl (show vp_in v1_36 6 from vi_of (by omega) (by omega)) dX12_digest_73 ?_
                    refine lv_topi (fun y47 ey47 => ?_)
                    have by47 : y47.toInt = (nu67_ 2 v1_36.toNatClampNeg).toInt := congrArg Int32.toInt ey47
                    have gy47 : -9 ≤ y47.toInt ∧ y47.toInt ≤ 40 := by rw [ey47]; exact rM_2_s ok v1_36.toNatClampNeg
                    refine lv_icmp_ge (tgt := 93) hx hb dX12_digest_74 (by decide) (fun c_48 => ?_) (fun c_48 => ?_)
                    · have c_48 : y47.toInt ≤ v2_67.toInt := il_le c_48
                      refine lv_iinc (v := (v1_36 + 1)) (lv' := [(1, .int (v1_36 + 1)), (2, .int v2_67), (0, .ref (ad 0))]) hx hb dX12_digest_93 hl (k := 1) rfl rfl (by decide) rfl (fun ls hl => ?_)
                      refine loc_gen (P := fun w9 => lv_has ls 3 [(1, .int w9), (2, .int v2_67), (0, .ref (ad 0))]) (v1_36 + 1) hl (fun w49 hw49 hl => ?_)
                      have hl : lv_has ls 3 [(1, .int w49), (2, .int v2_67), (0, .ref (ad 0))] := hl
                      have aw49 : w49.toInt = v1_36.toInt + 1 := by rw [← hw49]; exact tI_add (rfl : v1_36.toInt = _) (rfl : (1 : Int32).toInt = 1) (by omega) (by omega)
                      refine lv_goto (tgt := 36) hx hb dX12_digest_96 (by decide) ?_
                      exact ih36 (w49) nu67_ _ _ _ (by omega) (by exact ⟨by omega, by omega⟩)  ok hP  kq67_0 hS (lv_sub hl [0, 2] rfl)
                    · have c_48 : v2_67.toInt < y47.toInt := il_nle c_48
                      refine lv_aload_n hx hb dX12_digest_77 rfl (lv_at hl 2 rfl) ?_
                      refine lv_aload_n hx hb dX12_digest_78 rfl (lv_at hl 2 rfl) ?_
                      refine lv_iload_n hx hb dX12_digest_79 rfl (lv_at hl 1 rfl) ?_
                      refine lv_iload_n hx hb dX12_digest_80 rfl (lv_at hl 0 rfl) ?_
                      refine cr_i (va_runV (As := [.int v1_36, .int v2_67]) (rest := [.ref (ad 0)]) ⟨hx, hb, hml, hown, hts⟩ (sm_rowAt l dC dI cs ad nu67_ ok H hP v1_36 v2_67 (by omega)) (cwV 2 hts (wU_V mw_5_209 mw_5_206 mw_5_208 mw_0_29 mw_1_13) rfl rfl rfl (by decide +kernel) ⟨Nat.le_of_ble_eq_true rfl, Nat.le_of_ble_eq_true rfl⟩) ⟨sz_c, va_recv hK hP (ci := 12) (q0 := 0) rfl (gM_0 cs ad nu67_), sz_m hK hz⟩ rfl rfl hl.1 rfl (lv_room (Nat.le_of_ble_eq_true rfl)) dX12_digest_81 ⟨Nat.zero_le _, Nat.zero_le _⟩) hS (fun r50 hw50 locs hS => ?_)
                      have hFc := fr_all (wR_D nu67_ hD) hS hA
                      refine va_callv (va_runV (As := [.int r50]) (rest := []) ⟨hx, hb, hml, hown, hts⟩ (sm_mix l dC dI cs ad nu67_ ok H hP ((wR_D nu67_ hD).weaken (fun _ _ _ _ => trivial)) r50) (cwV 1 hts (wU_V mw_7_87 mw_7_84 mw_7_86 mw_0_66 mw_1_13) rfl rfl rfl (by decide +kernel) ⟨Nat.le_of_ble_eq_true rfl, Nat.le_of_ble_eq_true rfl⟩) ⟨sz_c, va_recv hK hP (ci := 12) (q0 := 0) rfl (gM_0 cs ad nu67_), sz_m hK hz⟩ rfl rfl hl.1 rfl (lv_room (Nat.le_of_ble_eq_true rfl)) dX12_digest_84 ⟨Nat.zero_le _, Nat.zero_le _⟩) hS (fun q _ h => hFc q h) hFc (fun xi51 t H51 locs ht hvm hw51 hB hz1 hk1 hS => ?_)
                      have hP : va_P (dC, dI) vwCl (wR 21 ad (EM cs ad) xi51) H51 := by rw [← ht]; exact hB
                      obtain ⟨ok, hw51, hkp51_0⟩ := hw51
                      have kp52 : (∀ k f : Nat, Nat.testBit 510 (gpM k f) = true → xi51 k f = mu k f) := kp_t hkp51_0 (by decide) kq67_0
                      refine lv_iinc (v := (v2_67 + 1)) (lv' := [(2, .int (v2_67 + 1)), (1, .int v1_36), (0, .ref (ad 0))]) hx hb dX12_digest_87 hl (k := 0) rfl rfl (by decide) rfl (fun ls hl => ?_)
                      refine loc_gen (P := fun w9 => lv_has ls 3 [(2, .int w9), (1, .int v1_36), (0, .ref (ad 0))]) (v2_67 + 1) hl (fun w53 hw53 hl => ?_)
                      have hl : lv_has ls 3 [(2, .int w53), (1, .int v1_36), (0, .ref (ad 0))] := hl
                      have aw53 : w53.toInt = v2_67.toInt + 1 := by rw [← hw53]; exact tI_add (rfl : v2_67.toInt = _) (rfl : (1 : Int32).toInt = 1) (by omega) (by omega)
                      refine lv_goto (tgt := 67) hx hb dX12_digest_90 (by decide) ?_
                      exact ih67 (w53) xi51 _ _ _ (by omega) (by exact ⟨by omega, by omega⟩)  ok hP  kp52 hS (lv_sub hl [0, 1, 2] rfl)
                exact loop67 ((40 + 1 - (0 : Int32).toInt).toNat + 1) (0) xi45 _ _ _ (Nat.lt_succ_self _) (by have h80 : (0 : Int32).toInt = 0 := rfl; exact ⟨by omega, by omega⟩)  ok hP  kp46 hS hl
        exact loop36 ((6 + 1 - (0 : Int32).toInt).toNat + 1) (0) xi5 _ _ _ (Nat.lt_succ_self _) (by have h80 : (0 : Int32).toInt = 0 := rfl; exact ⟨by omega, by omega⟩)  ok hP  kp6 hS hl
      · have c_4 : v1_9.toInt ≤ 8 := il_nlt c_4
        refine lv_aload_n hx hb dX12_digest_15 rfl (lv_at hl 1 rfl) ?_
        refine lv_aload_n hx hb dX12_digest_16 rfl (lv_at hl 1 rfl) ?_
        refine lv_iload_n hx hb dX12_digest_17 rfl (lv_at hl 0 rfl) ?_
        refine cr_i (va_runV (As := [.int v1_9]) (rest := [.ref (ad 0)]) ⟨hx, hb, hml, hown, hts⟩ (sm_tells l dC dI cs ad nu9_ ok H hP v1_9) (cwV 1 hts (wU_V mw_7_70 mw_7_67 mw_7_69 mw_0_65 mw_1_13) rfl rfl rfl (by decide +kernel) ⟨Nat.le_of_ble_eq_true rfl, Nat.le_of_ble_eq_true rfl⟩) ⟨sz_c, va_recv hK hP (ci := 12) (q0 := 0) rfl (gM_0 cs ad nu9_), sz_m hK hz⟩ rfl rfl hl.1 rfl (lv_room (Nat.le_of_ble_eq_true rfl)) dX12_digest_18 ⟨Nat.zero_le _, Nat.zero_le _⟩) hS (fun r54 hw54 locs hS => ?_)
        have hFc := fr_all (wR_D nu9_ hD) hS hA
        refine va_callv (va_runV (As := [.int r54]) (rest := []) ⟨hx, hb, hml, hown, hts⟩ (sm_mix l dC dI cs ad nu9_ ok H hP ((wR_D nu9_ hD).weaken (fun _ _ _ _ => trivial)) r54) (cwV 1 hts (wU_V mw_7_87 mw_7_84 mw_7_86 mw_0_66 mw_1_13) rfl rfl rfl (by decide +kernel) ⟨Nat.le_of_ble_eq_true rfl, Nat.le_of_ble_eq_true rfl⟩) ⟨sz_c, va_recv hK hP (ci := 12) (q0 := 0) rfl (gM_0 cs ad nu9_), sz_m hK hz⟩ rfl rfl hl.1 rfl (lv_room (Nat.le_of_ble_eq_true rfl)) dX12_digest_21 ⟨Nat.zero_le _, Nat.zero_le _⟩) hS (fun q _ h => hFc q h) hFc (fun xi55 t H55 locs ht hvm hw55 hB hz1 hk1 hS => ?_)
        have hP : va_P (dC, dI) vwCl (wR 21 ad (EM cs ad) xi55) H55 := by rw [← ht]; exact hB
        obtain ⟨ok, hw55, hkp55_0⟩ := hw55
        have kp56 : (∀ k f : Nat, Nat.testBit 510 (gpM k f) = true → xi55 k f = mu k f) := kp_t hkp55_0 (by decide) kq9_0
        refine lv_iinc (v := (v1_9 + 1)) (lv' := [(1, .int (v1_9 + 1)), (0, .ref (ad 0))]) hx hb dX12_digest_24 hl (k := 0) rfl rfl (by decide) rfl (fun ls hl => ?_)
        refine loc_gen (P := fun w9 => lv_has ls 3 [(1, .int w9), (0, .ref (ad 0))]) (v1_9 + 1) hl (fun w57 hw57 hl => ?_)
        have hl : lv_has ls 3 [(1, .int w57), (0, .ref (ad 0))] := hl
        have aw57 : w57.toInt = v1_9.toInt + 1 := by rw [← hw57]; exact tI_add (rfl : v1_9.toInt = _) (rfl : (1 : Int32).toInt = 1) (by omega) (by omega)
        refine lv_goto (tgt := 9) hx hb dX12_digest_27 (by decide) ?_
        exact ih9 (w57) xi55 _ _ _ (by omega) (by exact ⟨by omega, by omega⟩)  ok hP  kp56 hS (lv_sub hl [0, 1] rfl)
  exact loop9 ((9 + 1 - (0 : Int32).toInt).toNat + 1) (0) nu2 _ _ _ (Nat.lt_succ_self _) (by have h80 : (0 : Int32).toInt = 0 := rfl; exact ⟨by omega, by omega⟩)  ok hP  kp3 hS hl

