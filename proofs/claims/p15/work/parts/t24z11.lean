set_option maxHeartbeats 4000000 in
set_option maxRecDepth 100000 in
/-- sm_mixTown -/
theorem sm_mixTown (l : Launch) (dC : Nat → ClassId) (dI : Nat → Nat → Nat) (cs : Nat → ClassId) (ad : Nat → Nat) (mu : Nat → Nat → Int32) (ok : okR loM hiM mu) (H : Heap) (hP : va_P (dC, dI) vwCl (wR 21 ad (EM cs ad) mu) H) (hD0 : va_D (fun _ => True) (wR 21 ad (EM cs ad) mu)) : Met l yX12_mixTown (wU yX12_mixTown cX12_mixTown 3 none) ({ frames := 3, cells := 0, slots := 0, locals := 70 }) (va_Pc [.ref (ad 0)] (sz_P (dC, dI) vwCl (tyM cs) H)) (va_Qv (fun (xi : Nat → Nat → Int32) => okR loM hiM xi ∧ (True) ∧ (∀ k f : Nat, Nat.testBit 510 (gpM k f) = true → xi k f = mu k f)) (fun xi t => va_P (dC, dI) vwCl (wR 21 ad (EM cs ad) xi) t.heap) (va_A (wR 21 ad (EM cs ad) mu) H.size)) 0 0 (va_A (wR 21 ad (EM cs ad) mu) H.size) := by
  refine Met.ofW (cc := cX12_mixTown) (maxL := 3) (ret := none) (by decide) rfl ?_
  intro p e s m args below meth c s₁ B hml hv
  obtain ⟨rfl, hh, hK, hz⟩ := hv
  have hx := B.exec
  have hb := B.bytes
  have hr := B.returns
  have hts := atoms_spec (ws := (wU yX12_mixTown cX12_mixTown 3 none)) B.pre
  have hown : s.vm.findClass RX12 = some m.cls := findClass_of_methodNamed B.named
  have hlocks := B.notSynchronized
  subst hh
  have hD := hD0.self (sz := s.heap.size)
  have hA : ∀ q : Nat, s.heap.size ≤ q → (va_A (wR 21 ad (EM cs ad) mu) s.heap.size) q := fun q h => Or.inr h
  have hS : va_S (va_A (wR 21 ad (EM cs ad) mu) s.heap.size) s.heap s.heap [] := va_S.rf
  have hl := lv_entry ([.ref (ad 0)]) (n := 3) (Nat.le_of_ble_eq_true rfl)
  rw [lg_entry_eq]
  generalize (lg_sl ([.ref (ad 0)]) ++ List.replicate (3 - (lg_sl ([.ref (ad 0)])).length) Slot.unset).toArray = ls at hl ⊢
  have hl : lv_has ls 3 [(0, .ref (ad 0))] := hl
  refine lv_iconst (v := 0) hx hb dX12_mixTown_0 (by decide) ?_
  refine lv_istore_n (lv' := [(1, .int 0), (0, .ref (ad 0))]) hx hb dX12_mixTown_1 rfl hl (by decide) rfl (fun ls hl => ?_)
  have loop2 : ∀ (n2 : Nat) (v1_2 : Int32) (nu2_ : Nat → Nat → Int32) (H : Heap) (locs : List Loc) (ls : Array Slot), (7 + 1 - v1_2.toInt).toNat < n2 → (0 ≤ v1_2.toInt ∧ v1_2.toInt ≤ 7) → okR loM hiM nu2_ → va_P (dC, dI) vwCl (wR 21 ad (EM cs ad) nu2_) H → (∀ k f : Nat, Nat.testBit 510 (gpM k f) = true → nu2_ k f = mu k f) → va_S (va_A (wR 21 ad (EM cs ad) mu) s.heap.size) s.heap H locs → lv_has ls 3 [(1, .int v1_2), (0, .ref (ad 0))] → W p l e (headSpec (wU yX12_mixTown cX12_mixTown 3 none) ({ frames := 3, cells := 0, slots := 0, locals := 70 })).room s m ([.ref (ad 0)] : List Value).toArray below meth c H locs 0 0 (MQ below (va_Qv (fun (xi : Nat → Nat → Int32) => okR loM hiM xi ∧ (True) ∧ (∀ k f : Nat, Nat.testBit 510 (gpM k f) = true → xi k f = mu k f)) (fun xi t => va_P (dC, dI) vwCl (wR 21 ad (EM cs ad) xi) t.heap) (va_A (wR 21 ad (EM cs ad) mu) s.heap.size)) ([.ref (ad 0)] : List Value).toArray s 0 0 (va_A (wR 21 ad (EM cs ad) mu) s.heap.size)) (F0 m 2 ls []) := by
    intro n2
    induction n2 with
    | zero => intro v1_2 nu2_ H locs ls hm; exact absurd hm (Nat.not_lt_zero _)
    | succ n2 ih2 =>
      intro v1_2 nu2_ H locs ls hm h_v1_2 ok hP kq2_0 hS hl
      refine lv_iload_n hx hb dX12_mixTown_2 rfl (lv_at hl 0 rfl) ?_
      refine lv_aload_n hx hb dX12_mixTown_3 rfl (lv_at hl 1 rfl) ?_
      refine va_get (D := (dC, dI)) (ci := 12) (v := .int (nu2_ 0 8)) (C := RX12) (T := TX12) (N := 46) hx hb hts inG12 hown hK hP 0 (gM_0 cs ad nu2_) rfl 8 (by decide) (hts _ (List.mem_cons_of_mem _ mw_5_49)) (fun _ h9 => h9) rfl dX12_mixTown_4 ?_
      refine lv_topi (fun y1 ey1 => ?_)
      have by1 : y1.toInt = (nu2_ 0 8).toInt := congrArg Int32.toInt ey1
      have gy1 : 0 ≤ y1.toInt ∧ y1.toInt ≤ 7 := by rw [ey1]; exact rM_0_8 ok
      refine lv_icmp_ge (tgt := 39) hx hb dX12_mixTown_7 (by decide) (fun c_2 => ?_) (fun c_2 => ?_)
      · have c_2 : y1.toInt ≤ v1_2.toInt := il_le c_2
        refine lv_iconst (v := 0) hx hb dX12_mixTown_39 (by decide) ?_
        refine lv_istore_n (lv' := [(1, .int 0), (0, .ref (ad 0))]) hx hb dX12_mixTown_40 rfl hl (by decide) rfl (fun ls hl => ?_)
        have loop41 : ∀ (n41 : Nat) (v1_41 : Int32) (nu41_ : Nat → Nat → Int32) (H : Heap) (locs : List Loc) (ls : Array Slot), (12 + 1 - v1_41.toInt).toNat < n41 → (0 ≤ v1_41.toInt ∧ v1_41.toInt ≤ 12) → okR loM hiM nu41_ → va_P (dC, dI) vwCl (wR 21 ad (EM cs ad) nu41_) H → (∀ k f : Nat, Nat.testBit 510 (gpM k f) = true → nu41_ k f = mu k f) → va_S (va_A (wR 21 ad (EM cs ad) mu) s.heap.size) s.heap H locs → lv_has ls 3 [(1, .int v1_41), (0, .ref (ad 0))] → W p l e (headSpec (wU yX12_mixTown cX12_mixTown 3 none) ({ frames := 3, cells := 0, slots := 0, locals := 70 })).room s m ([.ref (ad 0)] : List Value).toArray below meth c H locs 0 0 (MQ below (va_Qv (fun (xi : Nat → Nat → Int32) => okR loM hiM xi ∧ (True) ∧ (∀ k f : Nat, Nat.testBit 510 (gpM k f) = true → xi k f = mu k f)) (fun xi t => va_P (dC, dI) vwCl (wR 21 ad (EM cs ad) xi) t.heap) (va_A (wR 21 ad (EM cs ad) mu) s.heap.size)) ([.ref (ad 0)] : List Value).toArray s 0 0 (va_A (wR 21 ad (EM cs ad) mu) s.heap.size)) (F0 m 41 ls []) := by
          intro n41
          induction n41 with
          | zero => intro v1_41 nu41_ H locs ls hm; exact absurd hm (Nat.not_lt_zero _)
          | succ n41 ih41 =>
            intro v1_41 nu41_ H locs ls hm h_v1_41 ok hP kq41_0 hS hl
            refine lv_iload_n hx hb dX12_mixTown_41 rfl (lv_at hl 0 rfl) ?_
            refine lv_aload_n hx hb dX12_mixTown_42 rfl (lv_at hl 1 rfl) ?_
            refine va_get (D := (dC, dI)) (ci := 12) (v := .int (nu41_ 0 11)) (C := RX12) (T := TX12) (N := 46) hx hb hts inG12 hown hK hP 0 (gM_0 cs ad nu41_) rfl 11 (by decide) (hts _ (List.mem_cons_of_mem _ mw_5_52)) (fun _ h9 => h9) rfl dX12_mixTown_43 ?_
            refine lv_topi (fun y3 ey3 => ?_)
            have by3 : y3.toInt = (nu41_ 0 11).toInt := congrArg Int32.toInt ey3
            have gy3 : 0 ≤ y3.toInt ∧ y3.toInt ≤ 12 := by rw [ey3]; exact rM_0_11 ok
            refine lv_icmp_ge (tgt := 93) hx hb dX12_mixTown_46 (by decide) (fun c_4 => ?_) (fun c_4 => ?_)
            · have c_4 : y3.toInt ≤ v1_41.toInt := il_le c_4
              refine lv_iconst (v := 0) hx hb dX12_mixTown_93 (by decide) ?_
              refine lv_istore_n (lv' := [(1, .int 0), (0, .ref (ad 0))]) hx hb dX12_mixTown_94 rfl hl (by decide) rfl (fun ls hl => ?_)
              have loop95 : ∀ (n95 : Nat) (v1_95 : Int32) (nu95_ : Nat → Nat → Int32) (H : Heap) (locs : List Loc) (ls : Array Slot), (4 + 1 - v1_95.toInt).toNat < n95 → (0 ≤ v1_95.toInt ∧ v1_95.toInt ≤ 4) → okR loM hiM nu95_ → va_P (dC, dI) vwCl (wR 21 ad (EM cs ad) nu95_) H → (∀ k f : Nat, Nat.testBit 510 (gpM k f) = true → nu95_ k f = mu k f) → va_S (va_A (wR 21 ad (EM cs ad) mu) s.heap.size) s.heap H locs → lv_has ls 3 [(1, .int v1_95), (0, .ref (ad 0))] → W p l e (headSpec (wU yX12_mixTown cX12_mixTown 3 none) ({ frames := 3, cells := 0, slots := 0, locals := 70 })).room s m ([.ref (ad 0)] : List Value).toArray below meth c H locs 0 0 (MQ below (va_Qv (fun (xi : Nat → Nat → Int32) => okR loM hiM xi ∧ (True) ∧ (∀ k f : Nat, Nat.testBit 510 (gpM k f) = true → xi k f = mu k f)) (fun xi t => va_P (dC, dI) vwCl (wR 21 ad (EM cs ad) xi) t.heap) (va_A (wR 21 ad (EM cs ad) mu) s.heap.size)) ([.ref (ad 0)] : List Value).toArray s 0 0 (va_A (wR 21 ad (EM cs ad) mu) s.heap.size)) (F0 m 95 ls []) := by
                intro n95
                induction n95 with
                | zero => intro v1_95 nu95_ H locs ls hm; exact absurd hm (Nat.not_lt_zero _)
                | succ n95 ih95 =>
                  intro v1_95 nu95_ H locs ls hm h_v1_95 ok hP kq95_0 hS hl
                  refine lv_iload_n hx hb dX12_mixTown_95 rfl (lv_at hl 0 rfl) ?_
                  refine lv_aload_n hx hb dX12_mixTown_96 rfl (lv_at hl 1 rfl) ?_
                  refine va_get (D := (dC, dI)) (ci := 12) (v := .int (nu95_ 0 15)) (C := RX12) (T := TX12) (N := 46) hx hb hts inG12 hown hK hP 0 (gM_0 cs ad nu95_) rfl 15 (by decide) (hts _ (List.mem_cons_of_mem _ mw_5_56)) (fun _ h9 => h9) rfl dX12_mixTown_97 ?_
                  refine lv_topi (fun y5 ey5 => ?_)
                  have by5 : y5.toInt = (nu95_ 0 15).toInt := congrArg Int32.toInt ey5
                  have gy5 : 0 ≤ y5.toInt ∧ y5.toInt ≤ 4 := by rw [ey5]; exact rM_0_15 ok
                  refine lv_icmp_ge (tgt := 153) hx hb dX12_mixTown_100 (by decide) (fun c_6 => ?_) (fun c_6 => ?_)
                  · have c_6 : y5.toInt ≤ v1_95.toInt := il_le c_6
                    refine lv_iconst (v := 0) hx hb dX12_mixTown_153 (by decide) ?_
                    refine lv_istore_n (lv' := [(1, .int 0), (0, .ref (ad 0))]) hx hb dX12_mixTown_154 rfl hl (by decide) rfl (fun ls hl => ?_)
                    have loop155 : ∀ (n155 : Nat) (v1_155 : Int32) (nu155_ : Nat → Nat → Int32) (H : Heap) (locs : List Loc) (ls : Array Slot), (3 + 1 - v1_155.toInt).toNat < n155 → (0 ≤ v1_155.toInt ∧ v1_155.toInt ≤ 3) → okR loM hiM nu155_ → va_P (dC, dI) vwCl (wR 21 ad (EM cs ad) nu155_) H → (∀ k f : Nat, Nat.testBit 510 (gpM k f) = true → nu155_ k f = mu k f) → va_S (va_A (wR 21 ad (EM cs ad) mu) s.heap.size) s.heap H locs → lv_has ls 3 [(1, .int v1_155), (0, .ref (ad 0))] → W p l e (headSpec (wU yX12_mixTown cX12_mixTown 3 none) ({ frames := 3, cells := 0, slots := 0, locals := 70 })).room s m ([.ref (ad 0)] : List Value).toArray below meth c H locs 0 0 (MQ below (va_Qv (fun (xi : Nat → Nat → Int32) => okR loM hiM xi ∧ (True) ∧ (∀ k f : Nat, Nat.testBit 510 (gpM k f) = true → xi k f = mu k f)) (fun xi t => va_P (dC, dI) vwCl (wR 21 ad (EM cs ad) xi) t.heap) (va_A (wR 21 ad (EM cs ad) mu) s.heap.size)) ([.ref (ad 0)] : List Value).toArray s 0 0 (va_A (wR 21 ad (EM cs ad) mu) s.heap.size)) (F0 m 155 ls []) := by
                      intro n155
                      induction n155 with
                      | zero => intro v1_155 nu155_ H locs ls hm; exact absurd hm (Nat.not_lt_zero _)
                      | succ n155 ih155 =>
                        intro v1_155 nu155_ H locs ls hm h_v1_155 ok hP kq155_0 hS hl
                        refine lv_iload_n hx hb dX12_mixTown_155 rfl (lv_at hl 0 rfl) ?_
                        refine lv_iconst (v := 3) hx hb dX12_mixTown_156 (by decide) ?_
                        refine lv_icmp_ge (tgt := 197) hx hb dX12_mixTown_157 (by decide) (fun c_7 => ?_) (fun c_7 => ?_)
                        · have c_7 : 3 ≤ v1_155.toInt := il_le c_7
                          exact W.vret hx hb hr (fun t ht hW => ⟨⟨nu155_, rfl, ⟨ok, trivial, kq155_0⟩, by first | (subst ht; exact hP) | (rw [ht]; exact hP) | (show va_P (dC, dI) vwCl (wR 21 ad (EM cs ad) nu155_) t.heap; rw [ht]; exact hP)⟩, hS.F ht⟩) hS.2.2 dX12_mixTown_197
                        · have c_7 : v1_155.toInt < 3 := il_nle c_7
                          refine lv_aload_n hx hb dX12_mixTown_160 rfl (lv_at hl 1 rfl) ?_
                          refine lv_aload_n hx hb dX12_mixTown_161 rfl (lv_at hl 1 rfl) ?_
                          refine va_get (D := (dC, dI)) (ci := 12) (v := .ref (ad 15)) (C := RX12) (T := TX12) (N := 46) hx hb hts inG12 hown hK hP 0 (gM_0 cs ad nu155_) rfl 25 (by decide) (hts _ (List.mem_cons_of_mem _ mw_5_66)) (fun _ h9 => h9) rfl dX12_mixTown_162 ?_
                          refine lv_bipush (v := 64) hx hb dX12_mixTown_165 (by decide) ?_
                          refine lv_iload_n hx hb dX12_mixTown_167 rfl (lv_at hl 0 rfl) ?_
                          refine lv_imul hx hb dX12_mixTown_168 ?_
                          refine lv_topi (fun t8 et8 => ?_)
                          have at8 : t8.toInt = 64 * v1_155.toInt := by rw [et8]; exact tI_mul (rfl : (64 : Int32).toInt = 64) (rfl : v1_155.toInt = _) (by omega) (by omega)
                          refine va_iald hx hb hK hP 15 0 (gM_15 cs ad nu155_) rfl (show vp_in t8 192 from vi_of (by omega) (by omega)) dX12_mixTown_169 ?_
                          have hc9 : ((t8 : Int32).toNatClampNeg : Int) = t8.toInt := tC_of (by omega)
                          refine lv_topi (fun y10 ey10 => ?_)
                          have by10 : y10.toInt = (nu155_ 15 t8.toNatClampNeg).toInt := congrArg Int32.toInt ey10
                          refine lv_bipush (v := (-9)) hx hb dX12_mixTown_170 (by decide) ?_
                          refine lv_icmp_ne (tgt := 179) hx hb dX12_mixTown_172 (by decide) (fun c_11 => ?_) (fun c_11 => ?_)
                          · have c_11 : ¬ y10.toInt = -9 := il_ne c_11
                            refine lv_aload_n hx hb dX12_mixTown_179 rfl (lv_at hl 1 rfl) ?_
                            refine va_get (D := (dC, dI)) (ci := 12) (v := .ref (ad 15)) (C := RX12) (T := TX12) (N := 46) hx hb hts inG12 hown hK hP 0 (gM_0 cs ad nu155_) rfl 25 (by decide) (hts _ (List.mem_cons_of_mem _ mw_5_66)) (fun _ h9 => h9) rfl dX12_mixTown_180 ?_
                            refine lv_bipush (v := 64) hx hb dX12_mixTown_183 (by decide) ?_
                            refine lv_iload_n hx hb dX12_mixTown_185 rfl (lv_at hl 0 rfl) ?_
                            refine lv_imul hx hb dX12_mixTown_186 ?_
                            refine lv_topi (fun t12 et12 => ?_)
                            have at12 : t12.toInt = 64 * v1_155.toInt := by rw [et12]; exact tI_mul (rfl : (64 : Int32).toInt = 64) (rfl : v1_155.toInt = _) (by omega) (by omega)
                            refine va_iald hx hb hK hP 15 0 (gM_15 cs ad nu155_) rfl (show vp_in t12 192 from vi_of (by omega) (by omega)) dX12_mixTown_187 ?_
                            have hc13 : ((t12 : Int32).toNatClampNeg : Int) = t12.toInt := tC_of (by omega)
                            refine lv_topi (fun y14 ey14 => ?_)
                            have by14 : y14.toInt = (nu155_ 15 t12.toNatClampNeg).toInt := congrArg Int32.toInt ey14
                            have hFc := fr_all (wR_D nu155_ hD) hS hA
                            refine va_callv (va_runV (As := [.int y14]) (rest := []) ⟨hx, hb, hml, hown, hts⟩ (sm_mix l dC dI cs ad nu155_ ok H hP ((wR_D nu155_ hD).weaken (fun _ _ _ _ => trivial)) y14) (cwV 1 hts (wU_V mw_7_87 mw_7_84 mw_7_86 mw_0_66 mw_1_13) rfl rfl rfl (by decide +kernel) ⟨Nat.le_of_ble_eq_true rfl, Nat.le_of_ble_eq_true rfl⟩) ⟨sz_c, va_recv hK hP (ci := 12) (q0 := 0) rfl (gM_0 cs ad nu155_), sz_m hK hz⟩ rfl rfl hl.1 rfl (lv_room (Nat.le_of_ble_eq_true rfl)) dX12_mixTown_188 ⟨Nat.zero_le _, Nat.zero_le _⟩) hS (fun q _ h => hFc q h) hFc (fun xi15 t H15 locs ht hvm hw15 hB hz1 hk1 hS => ?_)
                            have hP : va_P (dC, dI) vwCl (wR 21 ad (EM cs ad) xi15) H15 := by rw [← ht]; exact hB
                            obtain ⟨ok, hw15, hkp15_0⟩ := hw15
                            have kp16 : (∀ k f : Nat, Nat.testBit 510 (gpM k f) = true → xi15 k f = mu k f) := kp_t hkp15_0 (by decide) kq155_0
                            refine lv_iinc (v := (v1_155 + 1)) (lv' := [(1, .int (v1_155 + 1)), (0, .ref (ad 0))]) hx hb dX12_mixTown_191 hl (k := 0) rfl rfl (by decide) rfl (fun ls hl => ?_)
                            refine loc_gen (P := fun w9 => lv_has ls 3 [(1, .int w9), (0, .ref (ad 0))]) (v1_155 + 1) hl (fun w17 hw17 hl => ?_)
                            have hl : lv_has ls 3 [(1, .int w17), (0, .ref (ad 0))] := hl
                            have aw17 : w17.toInt = v1_155.toInt + 1 := by rw [← hw17]; exact tI_add (rfl : v1_155.toInt = _) (rfl : (1 : Int32).toInt = 1) (by omega) (by omega)
                            refine lv_goto (tgt := 155) hx hb dX12_mixTown_194 (by decide) ?_
                            exact ih155 (w17) xi15 _ _ _ (by omega) (by exact ⟨by omega, by omega⟩)  ok hP  kp16 hS (lv_sub hl [0, 1] rfl)
                          · have c_11 : y10.toInt = -9 := il_eq c_11
                            refine lv_iconst (v := (-1)) hx hb dX12_mixTown_175 (by decide) ?_
                            refine lv_goto (tgt := 188) hx hb dX12_mixTown_176 (by decide) ?_
                            have hFc := fr_all (wR_D nu155_ hD) hS hA
                            refine va_callv (va_runV (As := [.int (-1)]) (rest := []) ⟨hx, hb, hml, hown, hts⟩ (sm_mix l dC dI cs ad nu155_ ok H hP ((wR_D nu155_ hD).weaken (fun _ _ _ _ => trivial)) (-1)) (cwV 1 hts (wU_V mw_7_87 mw_7_84 mw_7_86 mw_0_66 mw_1_13) rfl rfl rfl (by decide +kernel) ⟨Nat.le_of_ble_eq_true rfl, Nat.le_of_ble_eq_true rfl⟩) ⟨sz_c, va_recv hK hP (ci := 12) (q0 := 0) rfl (gM_0 cs ad nu155_), sz_m hK hz⟩ rfl rfl hl.1 rfl (lv_room (Nat.le_of_ble_eq_true rfl)) dX12_mixTown_188 ⟨Nat.zero_le _, Nat.zero_le _⟩) hS (fun q _ h => hFc q h) hFc (fun xi18 t H18 locs ht hvm hw18 hB hz1 hk1 hS => ?_)
                            have hP : va_P (dC, dI) vwCl (wR 21 ad (EM cs ad) xi18) H18 := by rw [← ht]; exact hB
                            obtain ⟨ok, hw18, hkp18_0⟩ := hw18
                            have kp19 : (∀ k f : Nat, Nat.testBit 510 (gpM k f) = true → xi18 k f = mu k f) := kp_t hkp18_0 (by decide) kq155_0
                            refine lv_iinc (v := (v1_155 + 1)) (lv' := [(1, .int (v1_155 + 1)), (0, .ref (ad 0))]) hx hb dX12_mixTown_191 hl (k := 0) rfl rfl (by decide) rfl (fun ls hl => ?_)
                            refine loc_gen (P := fun w9 => lv_has ls 3 [(1, .int w9), (0, .ref (ad 0))]) (v1_155 + 1) hl (fun w20 hw20 hl => ?_)
                            have hl : lv_has ls 3 [(1, .int w20), (0, .ref (ad 0))] := hl
                            have aw20 : w20.toInt = v1_155.toInt + 1 := by rw [← hw20]; exact tI_add (rfl : v1_155.toInt = _) (rfl : (1 : Int32).toInt = 1) (by omega) (by omega)
                            refine lv_goto (tgt := 155) hx hb dX12_mixTown_194 (by decide) ?_
                            exact ih155 (w20) xi18 _ _ _ (by omega) (by exact ⟨by omega, by omega⟩)  ok hP  kp19 hS (lv_sub hl [0, 1] rfl)
                    exact loop155 ((3 + 1 - (0 : Int32).toInt).toNat + 1) (0) nu95_ _ _ _ (Nat.lt_succ_self _) (by have h80 : (0 : Int32).toInt = 0 := rfl; exact ⟨by omega, by omega⟩)  ok hP  kq95_0 hS hl
                  · have c_6 : v1_95.toInt < y5.toInt := il_nle c_6
                    refine lv_iconst (v := 0) hx hb dX12_mixTown_103 (by decide) ?_
                    refine lv_istore_n (lv' := [(2, .int 0), (1, .int v1_95), (0, .ref (ad 0))]) hx hb dX12_mixTown_104 rfl hl (by decide) rfl (fun ls hl => ?_)
                    have loop105 : ∀ (n105 : Nat) (v2_105 : Int32) (nu105_ : Nat → Nat → Int32) (H : Heap) (locs : List Loc) (ls : Array Slot), (5 + 1 - v2_105.toInt).toNat < n105 → (0 ≤ v2_105.toInt ∧ v2_105.toInt ≤ 5) → okR loM hiM nu105_ → va_P (dC, dI) vwCl (wR 21 ad (EM cs ad) nu105_) H → (∀ k f : Nat, Nat.testBit 510 (gpM k f) = true → nu105_ k f = mu k f) → va_S (va_A (wR 21 ad (EM cs ad) mu) s.heap.size) s.heap H locs → lv_has ls 3 [(2, .int v2_105), (1, .int v1_95), (0, .ref (ad 0))] → W p l e (headSpec (wU yX12_mixTown cX12_mixTown 3 none) ({ frames := 3, cells := 0, slots := 0, locals := 70 })).room s m ([.ref (ad 0)] : List Value).toArray below meth c H locs 0 0 (MQ below (va_Qv (fun (xi : Nat → Nat → Int32) => okR loM hiM xi ∧ (True) ∧ (∀ k f : Nat, Nat.testBit 510 (gpM k f) = true → xi k f = mu k f)) (fun xi t => va_P (dC, dI) vwCl (wR 21 ad (EM cs ad) xi) t.heap) (va_A (wR 21 ad (EM cs ad) mu) s.heap.size)) ([.ref (ad 0)] : List Value).toArray s 0 0 (va_A (wR 21 ad (EM cs ad) mu) s.heap.size)) (F0 m 105 ls []) := by
                      intro n105
                      induction n105 with
                      | zero => intro v2_105 nu105_ H locs ls hm; exact absurd hm (Nat.not_lt_zero _)
                      | succ n105 ih105 =>
                        intro v2_105 nu105_ H locs ls hm h_v2_105 ok hP kq105_0 hS hl
                        refine lv_iload_n hx hb dX12_mixTown_105 rfl (lv_at hl 0 rfl) ?_
                        refine lv_iconst (v := 4) hx hb dX12_mixTown_106 (by decide) ?_
                        refine lv_icmp_gt (tgt := 126) hx hb dX12_mixTown_107 (by decide) (fun c_21 => ?_) (fun c_21 => ?_)
                        · have c_21 : 4 < v2_105.toInt := il_lt c_21
                          refine lv_aload_n hx hb dX12_mixTown_126 rfl (lv_at hl 2 rfl) ?_
                          refine lv_aload_n hx hb dX12_mixTown_127 rfl (lv_at hl 2 rfl) ?_
                          refine lv_iload_n hx hb dX12_mixTown_128 rfl (lv_at hl 1 rfl) ?_
                          refine lv_iconst (v := 5) hx hb dX12_mixTown_129 (by decide) ?_
                          refine cr_i (va_runV (As := [.int v1_95, .int 5]) (rest := [.ref (ad 0)]) ⟨hx, hb, hml, hown, hts⟩ (sm_letterOf5 l dC dI cs ad nu105_ ok H hP v1_95 (by have h51 : (5 : Int32).toInt = 5 := rfl; omega)) (cwV 2 hts (wU_V mw_6_48 mw_6_45 mw_6_47 mw_0_38 mw_1_13) rfl rfl rfl (by decide +kernel) ⟨Nat.le_of_ble_eq_true rfl, Nat.le_of_ble_eq_true rfl⟩) ⟨sz_c, va_recv hK hP (ci := 12) (q0 := 0) rfl (gM_0 cs ad nu105_), sz_m hK hz⟩ rfl rfl hl.1 rfl (lv_room (Nat.le_of_ble_eq_true rfl)) dX12_mixTown_130 ⟨Nat.zero_le _, Nat.zero_le _⟩) hS (fun r22 hw22 locs hS => ?_)
                          obtain ⟨hfe22, hw22⟩ := hw22
                          have gr22 : 0 ≤ r22.toInt ∧ r22.toInt ≤ 6 := hw22
                          have hFc := fr_all (wR_D nu105_ hD) hS hA
                          refine va_callv (va_runV (As := [.int r22]) (rest := []) ⟨hx, hb, hml, hown, hts⟩ (sm_mix l dC dI cs ad nu105_ ok H hP ((wR_D nu105_ hD).weaken (fun _ _ _ _ => trivial)) r22) (cwV 1 hts (wU_V mw_7_87 mw_7_84 mw_7_86 mw_0_66 mw_1_13) rfl rfl rfl (by decide +kernel) ⟨Nat.le_of_ble_eq_true rfl, Nat.le_of_ble_eq_true rfl⟩) ⟨sz_c, va_recv hK hP (ci := 12) (q0 := 0) rfl (gM_0 cs ad nu105_), sz_m hK hz⟩ rfl rfl hl.1 rfl (lv_room (Nat.le_of_ble_eq_true rfl)) dX12_mixTown_133 ⟨Nat.zero_le _, Nat.zero_le _⟩) hS (fun q _ h => hFc q h) hFc (fun xi23 t H23 locs ht hvm hw23 hB hz1 hk1 hS => ?_)
                          have hP : va_P (dC, dI) vwCl (wR 21 ad (EM cs ad) xi23) H23 := by rw [← ht]; exact hB
                          obtain ⟨ok, hw23, hkp23_0⟩ := hw23
                          have kp24 : (∀ k f : Nat, Nat.testBit 510 (gpM k f) = true → xi23 k f = mu k f) := kp_t hkp23_0 (by decide) kq105_0
                          refine lv_aload_n hx hb dX12_mixTown_136 rfl (lv_at hl 2 rfl) ?_
                          refine lv_aload_n hx hb dX12_mixTown_137 rfl (lv_at hl 2 rfl) ?_
                          refine lv_iload_n hx hb dX12_mixTown_138 rfl (lv_at hl 1 rfl) ?_
                          refine lv_bipush (v := 6) hx hb dX12_mixTown_139 (by decide) ?_
                          refine cr_i (va_runV (As := [.int v1_95, .int 6]) (rest := [.ref (ad 0)]) ⟨hx, hb, hml, hown, hts⟩ (sm_letterOf l dC dI cs ad xi23 ok H23 hP v1_95 6 (by have h51 : (6 : Int32).toInt = 6 := rfl; omega)) (cwV 2 hts (wU_V mw_6_48 mw_6_45 mw_6_47 mw_0_38 mw_1_13) rfl rfl rfl (by decide +kernel) ⟨Nat.le_of_ble_eq_true rfl, Nat.le_of_ble_eq_true rfl⟩) ⟨sz_c, va_recv hK hP (ci := 12) (q0 := 0) rfl (gM_0 cs ad xi23), sz_m hK hz⟩ rfl rfl hl.1 rfl (lv_room (Nat.le_of_ble_eq_true rfl)) dX12_mixTown_141 ⟨Nat.zero_le _, Nat.zero_le _⟩) hS (fun r25 hw25 locs hS => ?_)
                          obtain ⟨hfe25, hw25⟩ := hw25
                          have hFc := fr_all (wR_D xi23 hD) hS hA
                          refine va_callv (va_runV (As := [.int r25]) (rest := []) ⟨hx, hb, hml, hown, hts⟩ (sm_mix l dC dI cs ad xi23 ok H23 hP ((wR_D xi23 hD).weaken (fun _ _ _ _ => trivial)) r25) (cwV 1 hts (wU_V mw_7_87 mw_7_84 mw_7_86 mw_0_66 mw_1_13) rfl rfl rfl (by decide +kernel) ⟨Nat.le_of_ble_eq_true rfl, Nat.le_of_ble_eq_true rfl⟩) ⟨sz_c, va_recv hK hP (ci := 12) (q0 := 0) rfl (gM_0 cs ad xi23), sz_m hK hz⟩ rfl rfl hl.1 rfl (lv_room (Nat.le_of_ble_eq_true rfl)) dX12_mixTown_144 ⟨Nat.zero_le _, Nat.zero_le _⟩) hS (fun q _ h => hFc q h) hFc (fun xi26 t H26 locs ht hvm hw26 hB hz1 hk1 hS => ?_)
                          have hP : va_P (dC, dI) vwCl (wR 21 ad (EM cs ad) xi26) H26 := by rw [← ht]; exact hB
                          obtain ⟨ok, hw26, hkp26_0⟩ := hw26
                          have kp27 : (∀ k f : Nat, Nat.testBit 510 (gpM k f) = true → xi26 k f = mu k f) := kp_t hkp26_0 (by decide) kp24
                          refine lv_iinc (v := (v1_95 + 1)) (lv' := [(1, .int (v1_95 + 1)), (2, .int v2_105), (0, .ref (ad 0))]) hx hb dX12_mixTown_147 hl (k := 1) rfl rfl (by decide) rfl (fun ls hl => ?_)
                          refine loc_gen (P := fun w9 => lv_has ls 3 [(1, .int w9), (2, .int v2_105), (0, .ref (ad 0))]) (v1_95 + 1) hl (fun w28 hw28 hl => ?_)
                          have hl : lv_has ls 3 [(1, .int w28), (2, .int v2_105), (0, .ref (ad 0))] := hl
                          have aw28 : w28.toInt = v1_95.toInt + 1 := by rw [← hw28]; exact tI_add (rfl : v1_95.toInt = _) (rfl : (1 : Int32).toInt = 1) (by omega) (by omega)
                          refine lv_goto (tgt := 95) hx hb dX12_mixTown_150 (by decide) ?_
                          exact ih95 (w28) xi26 _ _ _ (by omega) (by exact ⟨by omega, by omega⟩)  ok hP  kp27 hS (lv_sub hl [0, 2] rfl)
                        · have c_21 : v2_105.toInt ≤ 4 := il_nlt c_21
                          refine lv_aload_n hx hb dX12_mixTown_110 rfl (lv_at hl 2 rfl) ?_
                          refine lv_aload_n hx hb dX12_mixTown_111 rfl (lv_at hl 2 rfl) ?_
                          refine lv_iload_n hx hb dX12_mixTown_112 rfl (lv_at hl 1 rfl) ?_
                          refine lv_iload_n hx hb dX12_mixTown_113 rfl (lv_at hl 0 rfl) ?_
                          refine cr_i (va_runV (As := [.int v1_95, .int v2_105]) (rest := [.ref (ad 0)]) ⟨hx, hb, hml, hown, hts⟩ (sm_letterTells l dC dI cs ad nu105_ ok H hP v1_95 v2_105 (by omega)) (cwV 2 hts (wU_V mw_6_146 mw_6_143 mw_6_145 mw_0_51 mw_1_13) rfl rfl rfl (by decide +kernel) ⟨Nat.le_of_ble_eq_true rfl, Nat.le_of_ble_eq_true rfl⟩) ⟨sz_c, va_recv hK hP (ci := 12) (q0 := 0) rfl (gM_0 cs ad nu105_), sz_m hK hz⟩ rfl rfl hl.1 rfl (lv_room (Nat.le_of_ble_eq_true rfl)) dX12_mixTown_114 ⟨Nat.zero_le _, Nat.zero_le _⟩) hS (fun r29 hw29 locs hS => ?_)
                          obtain ⟨hfe29, hw29⟩ := hw29
                          have hFc := fr_all (wR_D nu105_ hD) hS hA
                          refine va_callv (va_runV (As := [.int r29]) (rest := []) ⟨hx, hb, hml, hown, hts⟩ (sm_mix l dC dI cs ad nu105_ ok H hP ((wR_D nu105_ hD).weaken (fun _ _ _ _ => trivial)) r29) (cwV 1 hts (wU_V mw_7_87 mw_7_84 mw_7_86 mw_0_66 mw_1_13) rfl rfl rfl (by decide +kernel) ⟨Nat.le_of_ble_eq_true rfl, Nat.le_of_ble_eq_true rfl⟩) ⟨sz_c, va_recv hK hP (ci := 12) (q0 := 0) rfl (gM_0 cs ad nu105_), sz_m hK hz⟩ rfl rfl hl.1 rfl (lv_room (Nat.le_of_ble_eq_true rfl)) dX12_mixTown_117 ⟨Nat.zero_le _, Nat.zero_le _⟩) hS (fun q _ h => hFc q h) hFc (fun xi30 t H30 locs ht hvm hw30 hB hz1 hk1 hS => ?_)
                          have hP : va_P (dC, dI) vwCl (wR 21 ad (EM cs ad) xi30) H30 := by rw [← ht]; exact hB
                          obtain ⟨ok, hw30, hkp30_0⟩ := hw30
                          have kp31 : (∀ k f : Nat, Nat.testBit 510 (gpM k f) = true → xi30 k f = mu k f) := kp_t hkp30_0 (by decide) kq105_0
                          refine lv_iinc (v := (v2_105 + 1)) (lv' := [(2, .int (v2_105 + 1)), (1, .int v1_95), (0, .ref (ad 0))]) hx hb dX12_mixTown_120 hl (k := 0) rfl rfl (by decide) rfl (fun ls hl => ?_)
                          refine loc_gen (P := fun w9 => lv_has ls 3 [(2, .int w9), (1, .int v1_95), (0, .ref (ad 0))]) (v2_105 + 1) hl (fun w32 hw32 hl => ?_)
                          have hl : lv_has ls 3 [(2, .int w32), (1, .int v1_95), (0, .ref (ad 0))] := hl
                          have aw32 : w32.toInt = v2_105.toInt + 1 := by rw [← hw32]; exact tI_add (rfl : v2_105.toInt = _) (rfl : (1 : Int32).toInt = 1) (by omega) (by omega)
                          refine lv_goto (tgt := 105) hx hb dX12_mixTown_123 (by decide) ?_
                          exact ih105 (w32) xi30 _ _ _ (by omega) (by exact ⟨by omega, by omega⟩)  ok hP  kp31 hS (lv_sub hl [0, 1, 2] rfl)
                    exact loop105 ((5 + 1 - (0 : Int32).toInt).toNat + 1) (0) nu95_ _ _ _ (Nat.lt_succ_self _) (by have h80 : (0 : Int32).toInt = 0 := rfl; exact ⟨by omega, by omega⟩)  ok hP  kq95_0 hS hl
              exact loop95 ((4 + 1 - (0 : Int32).toInt).toNat + 1) (0) nu41_ _ _ _ (Nat.lt_succ_self _) (by have h80 : (0 : Int32).toInt = 0 := rfl; exact ⟨by omega, by omega⟩)  ok hP  kq41_0 hS hl
            · have c_4 : v1_41.toInt < y3.toInt := il_nle c_4
              refine lv_aload_n hx hb dX12_mixTown_49 rfl (lv_at hl 1 rfl) ?_
              refine lv_aload_n hx hb dX12_mixTown_50 rfl (lv_at hl 1 rfl) ?_
              refine va_get (D := (dC, dI)) (ci := 12) (v := .ref (ad 9)) (C := RX12) (T := TX12) (N := 46) hx hb hts inG12 hown hK hP 0 (gM_0 cs ad nu41_) rfl 12 (by decide) (hts _ (List.mem_cons_of_mem _ mw_5_53)) (fun _ h9 => h9) rfl dX12_mixTown_51 ?_
              refine lv_iconst (v := 2) hx hb dX12_mixTown_54 (by decide) ?_
              refine lv_iload_n hx hb dX12_mixTown_55 rfl (lv_at hl 0 rfl) ?_
              refine lv_imul hx hb dX12_mixTown_56 ?_
              refine lv_topi (fun t33 et33 => ?_)
              have at33 : t33.toInt = 2 * v1_41.toInt := by rw [et33]; exact tI_mul (rfl : (2 : Int32).toInt = 2) (rfl : v1_41.toInt = _) (by omega) (by omega)
              refine va_iald hx hb hK hP 9 0 (gM_9 cs ad nu41_) rfl (show vp_in t33 24 from vi_of (by omega) (by omega)) dX12_mixTown_57 ?_
              refine lv_topi (fun y34 ey34 => ?_)
              have by34 : y34.toInt = (nu41_ 9 t33.toNatClampNeg).toInt := congrArg Int32.toInt ey34
              have hFc := fr_all (wR_D nu41_ hD) hS hA
              refine va_callv (va_runV (As := [.int y34]) (rest := []) ⟨hx, hb, hml, hown, hts⟩ (sm_mix l dC dI cs ad nu41_ ok H hP ((wR_D nu41_ hD).weaken (fun _ _ _ _ => trivial)) y34) (cwV 1 hts (wU_V mw_7_87 mw_7_84 mw_7_86 mw_0_66 mw_1_13) rfl rfl rfl (by decide +kernel) ⟨Nat.le_of_ble_eq_true rfl, Nat.le_of_ble_eq_true rfl⟩) ⟨sz_c, va_recv hK hP (ci := 12) (q0 := 0) rfl (gM_0 cs ad nu41_), sz_m hK hz⟩ rfl rfl hl.1 rfl (lv_room (Nat.le_of_ble_eq_true rfl)) dX12_mixTown_58 ⟨Nat.zero_le _, Nat.zero_le _⟩) hS (fun q _ h => hFc q h) hFc (fun xi35 t H35 locs ht hvm hw35 hB hz1 hk1 hS => ?_)
              have hP : va_P (dC, dI) vwCl (wR 21 ad (EM cs ad) xi35) H35 := by rw [← ht]; exact hB
              obtain ⟨ok, hw35, hkp35_0⟩ := hw35
              have kp36 : (∀ k f : Nat, Nat.testBit 510 (gpM k f) = true → xi35 k f = mu k f) := kp_t hkp35_0 (by decide) kq41_0
              refine lv_aload_n hx hb dX12_mixTown_61 rfl (lv_at hl 1 rfl) ?_
              refine lv_aload_n hx hb dX12_mixTown_62 rfl (lv_at hl 1 rfl) ?_
              refine va_get (D := (dC, dI)) (ci := 12) (v := .ref (ad 9)) (C := RX12) (T := TX12) (N := 46) hx hb hts inG12 hown hK hP 0 (gM_0 cs ad xi35) rfl 12 (by decide) (hts _ (List.mem_cons_of_mem _ mw_5_53)) (fun _ h9 => h9) rfl dX12_mixTown_63 ?_
              refine lv_iconst (v := 2) hx hb dX12_mixTown_66 (by decide) ?_
              refine lv_iload_n hx hb dX12_mixTown_67 rfl (lv_at hl 0 rfl) ?_
              refine lv_imul hx hb dX12_mixTown_68 ?_
              refine lv_topi (fun t37 et37 => ?_)
              have at37 : t37.toInt = 2 * v1_41.toInt := by rw [et37]; exact tI_mul (rfl : (2 : Int32).toInt = 2) (rfl : v1_41.toInt = _) (by omega) (by omega)
              refine lv_iconst (v := 1) hx hb dX12_mixTown_69 (by decide) ?_
              refine lv_iadd hx hb dX12_mixTown_70 ?_
              refine lv_topi (fun t38 et38 => ?_)
              have at38 : t38.toInt = t37.toInt + 1 := by rw [et38]; exact tI_add (rfl : t37.toInt = _) (rfl : (1 : Int32).toInt = 1) (by omega) (by omega)
              refine va_iald hx hb hK hP 9 0 (gM_9 cs ad xi35) rfl (show vp_in t38 24 from vi_of (by omega) (by omega)) dX12_mixTown_71 ?_
              refine lv_topi (fun y39 ey39 => ?_)
              have by39 : y39.toInt = (xi35 9 t38.toNatClampNeg).toInt := congrArg Int32.toInt ey39
              have hFc := fr_all (wR_D xi35 hD) hS hA
              refine va_callv (va_runV (As := [.int y39]) (rest := []) ⟨hx, hb, hml, hown, hts⟩ (sm_mix l dC dI cs ad xi35 ok H35 hP ((wR_D xi35 hD).weaken (fun _ _ _ _ => trivial)) y39) (cwV 1 hts (wU_V mw_7_87 mw_7_84 mw_7_86 mw_0_66 mw_1_13) rfl rfl rfl (by decide +kernel) ⟨Nat.le_of_ble_eq_true rfl, Nat.le_of_ble_eq_true rfl⟩) ⟨sz_c, va_recv hK hP (ci := 12) (q0 := 0) rfl (gM_0 cs ad xi35), sz_m hK hz⟩ rfl rfl hl.1 rfl (lv_room (Nat.le_of_ble_eq_true rfl)) dX12_mixTown_72 ⟨Nat.zero_le _, Nat.zero_le _⟩) hS (fun q _ h => hFc q h) hFc (fun xi40 t H40 locs ht hvm hw40 hB hz1 hk1 hS => ?_)
              have hP : va_P (dC, dI) vwCl (wR 21 ad (EM cs ad) xi40) H40 := by rw [← ht]; exact hB
              obtain ⟨ok, hw40, hkp40_0⟩ := hw40
              have kp41 : (∀ k f : Nat, Nat.testBit 510 (gpM k f) = true → xi40 k f = mu k f) := kp_t hkp40_0 (by decide) kp36
              refine lv_aload_n hx hb dX12_mixTown_75 rfl (lv_at hl 1 rfl) ?_
              refine lv_aload_n hx hb dX12_mixTown_76 rfl (lv_at hl 1 rfl) ?_
              refine va_get (D := (dC, dI)) (ci := 12) (v := .int (xi40 0 13)) (C := RX12) (T := TX12) (N := 46) hx hb hts inG12 hown hK hP 0 (gM_0 cs ad xi40) rfl 13 (by decide) (hts _ (List.mem_cons_of_mem _ mw_5_54)) (fun _ h9 => h9) rfl dX12_mixTown_77 ?_
              refine lv_topi (fun y42 ey42 => ?_)
              have by42 : y42.toInt = (xi40 0 13).toInt := congrArg Int32.toInt ey42
              refine lv_iload_n hx hb dX12_mixTown_80 rfl (lv_at hl 0 rfl) ?_
              refine lv_ishr hx hb dX12_mixTown_81 ?_
              refine lv_topi (fun t43 et43 => ?_)
              refine lv_iconst (v := 1) hx hb dX12_mixTown_82 (by decide) ?_
              refine lv_iand hx hb dX12_mixTown_83 ?_
              refine lv_topi (fun t44 et44 => ?_)
              have hFc := fr_all (wR_D xi40 hD) hS hA
              refine va_callv (va_runV (As := [.int t44]) (rest := []) ⟨hx, hb, hml, hown, hts⟩ (sm_mix l dC dI cs ad xi40 ok H40 hP ((wR_D xi40 hD).weaken (fun _ _ _ _ => trivial)) t44) (cwV 1 hts (wU_V mw_7_87 mw_7_84 mw_7_86 mw_0_66 mw_1_13) rfl rfl rfl (by decide +kernel) ⟨Nat.le_of_ble_eq_true rfl, Nat.le_of_ble_eq_true rfl⟩) ⟨sz_c, va_recv hK hP (ci := 12) (q0 := 0) rfl (gM_0 cs ad xi40), sz_m hK hz⟩ rfl rfl hl.1 rfl (lv_room (Nat.le_of_ble_eq_true rfl)) dX12_mixTown_84 ⟨Nat.zero_le _, Nat.zero_le _⟩) hS (fun q _ h => hFc q h) hFc (fun xi45 t H45 locs ht hvm hw45 hB hz1 hk1 hS => ?_)
              have hP : va_P (dC, dI) vwCl (wR 21 ad (EM cs ad) xi45) H45 := by rw [← ht]; exact hB
              obtain ⟨ok, hw45, hkp45_0⟩ := hw45
              have kp46 : (∀ k f : Nat, Nat.testBit 510 (gpM k f) = true → xi45 k f = mu k f) := kp_t hkp45_0 (by decide) kp41
              refine lv_iinc (v := (v1_41 + 1)) (lv' := [(1, .int (v1_41 + 1)), (0, .ref (ad 0))]) hx hb dX12_mixTown_87 hl (k := 0) rfl rfl (by decide) rfl (fun ls hl => ?_)
              refine loc_gen (P := fun w9 => lv_has ls 3 [(1, .int w9), (0, .ref (ad 0))]) (v1_41 + 1) hl (fun w47 hw47 hl => ?_)
              have hl : lv_has ls 3 [(1, .int w47), (0, .ref (ad 0))] := hl
              have aw47 : w47.toInt = v1_41.toInt + 1 := by rw [← hw47]; exact tI_add (rfl : v1_41.toInt = _) (rfl : (1 : Int32).toInt = 1) (by omega) (by omega)
              refine lv_goto (tgt := 41) hx hb dX12_mixTown_90 (by decide) ?_
              exact ih41 (w47) xi45 _ _ _ (by omega) (by exact ⟨by omega, by omega⟩)  ok hP  kp46 hS (lv_sub hl [0, 1] rfl)
        exact loop41 ((12 + 1 - (0 : Int32).toInt).toNat + 1) (0) nu2_ _ _ _ (Nat.lt_succ_self _) (by have h80 : (0 : Int32).toInt = 0 := rfl; exact ⟨by omega, by omega⟩)  ok hP  kq2_0 hS hl
      · have c_2 : v1_2.toInt < y1.toInt := il_nle c_2
        refine lv_iconst (v := 0) hx hb dX12_mixTown_10 (by decide) ?_
        refine lv_istore_n (lv' := [(2, .int 0), (1, .int v1_2), (0, .ref (ad 0))]) hx hb dX12_mixTown_11 rfl hl (by decide) rfl (fun ls hl => ?_)
        have loop12 : ∀ (n12 : Nat) (v2_12 : Int32) (nu12_ : Nat → Nat → Int32) (H : Heap) (locs : List Loc) (ls : Array Slot), (4 + 1 - v2_12.toInt).toNat < n12 → (0 ≤ v2_12.toInt ∧ v2_12.toInt ≤ 4) → okR loM hiM nu12_ → va_P (dC, dI) vwCl (wR 21 ad (EM cs ad) nu12_) H → (∀ k f : Nat, Nat.testBit 510 (gpM k f) = true → nu12_ k f = mu k f) → va_S (va_A (wR 21 ad (EM cs ad) mu) s.heap.size) s.heap H locs → lv_has ls 3 [(2, .int v2_12), (1, .int v1_2), (0, .ref (ad 0))] → W p l e (headSpec (wU yX12_mixTown cX12_mixTown 3 none) ({ frames := 3, cells := 0, slots := 0, locals := 70 })).room s m ([.ref (ad 0)] : List Value).toArray below meth c H locs 0 0 (MQ below (va_Qv (fun (xi : Nat → Nat → Int32) => okR loM hiM xi ∧ (True) ∧ (∀ k f : Nat, Nat.testBit 510 (gpM k f) = true → xi k f = mu k f)) (fun xi t => va_P (dC, dI) vwCl (wR 21 ad (EM cs ad) xi) t.heap) (va_A (wR 21 ad (EM cs ad) mu) s.heap.size)) ([.ref (ad 0)] : List Value).toArray s 0 0 (va_A (wR 21 ad (EM cs ad) mu) s.heap.size)) (F0 m 12 ls []) := by
          intro n12
          induction n12 with
          | zero => intro v2_12 nu12_ H locs ls hm; exact absurd hm (Nat.not_lt_zero _)
          | succ n12 ih12 =>
            intro v2_12 nu12_ H locs ls hm h_v2_12 ok hP kq12_0 hS hl
            refine lv_iload_n hx hb dX12_mixTown_12 rfl (lv_at hl 0 rfl) ?_
            refine lv_iconst (v := 3) hx hb dX12_mixTown_13 (by decide) ?_
            refine lv_icmp_gt (tgt := 33) hx hb dX12_mixTown_14 (by decide) (fun c_48 => ?_) (fun c_48 => ?_)
            · have c_48 : 3 < v2_12.toInt := il_lt c_48
              refine lv_iinc (v := (v1_2 + 1)) (lv' := [(1, .int (v1_2 + 1)), (2, .int v2_12), (0, .ref (ad 0))]) hx hb dX12_mixTown_33 hl (k := 1) rfl rfl (by decide) rfl (fun ls hl => ?_)
              refine loc_gen (P := fun w9 => lv_has ls 3 [(1, .int w9), (2, .int v2_12), (0, .ref (ad 0))]) (v1_2 + 1) hl (fun w49 hw49 hl => ?_)
              have hl : lv_has ls 3 [(1, .int w49), (2, .int v2_12), (0, .ref (ad 0))] := hl
              have aw49 : w49.toInt = v1_2.toInt + 1 := by rw [← hw49]; exact tI_add (rfl : v1_2.toInt = _) (rfl : (1 : Int32).toInt = 1) (by omega) (by omega)
              refine lv_goto (tgt := 2) hx hb dX12_mixTown_36 (by decide) ?_
              exact ih2 (w49) nu12_ _ _ _ (by omega) (by exact ⟨by omega, by omega⟩)  ok hP  kq12_0 hS (lv_sub hl [0, 2] rfl)
            · have c_48 : v2_12.toInt ≤ 3 := il_nlt c_48
              refine lv_aload_n hx hb dX12_mixTown_17 rfl (lv_at hl 2 rfl) ?_
              refine lv_aload_n hx hb dX12_mixTown_18 rfl (lv_at hl 2 rfl) ?_
              refine lv_iload_n hx hb dX12_mixTown_19 rfl (lv_at hl 1 rfl) ?_
              refine lv_iload_n hx hb dX12_mixTown_20 rfl (lv_at hl 0 rfl) ?_
              refine cr_i (va_runV (As := [.int v1_2, .int v2_12]) (rest := [.ref (ad 0)]) ⟨hx, hb, hml, hown, hts⟩ (sm_bearerOf l dC dI cs ad nu12_ ok H hP v1_2 v2_12 (by omega)) (cwV 2 hts (wU_V mw_6_44 mw_6_41 mw_6_43 mw_0_37 mw_1_13) rfl rfl rfl (by decide +kernel) ⟨Nat.le_of_ble_eq_true rfl, Nat.le_of_ble_eq_true rfl⟩) ⟨sz_c, va_recv hK hP (ci := 12) (q0 := 0) rfl (gM_0 cs ad nu12_), sz_m hK hz⟩ rfl rfl hl.1 rfl (lv_room (Nat.le_of_ble_eq_true rfl)) dX12_mixTown_21 ⟨Nat.zero_le _, Nat.zero_le _⟩) hS (fun r50 hw50 locs hS => ?_)
              obtain ⟨hfe50, hw50⟩ := hw50
              have hFc := fr_all (wR_D nu12_ hD) hS hA
              refine va_callv (va_runV (As := [.int r50]) (rest := []) ⟨hx, hb, hml, hown, hts⟩ (sm_mix l dC dI cs ad nu12_ ok H hP ((wR_D nu12_ hD).weaken (fun _ _ _ _ => trivial)) r50) (cwV 1 hts (wU_V mw_7_87 mw_7_84 mw_7_86 mw_0_66 mw_1_13) rfl rfl rfl (by decide +kernel) ⟨Nat.le_of_ble_eq_true rfl, Nat.le_of_ble_eq_true rfl⟩) ⟨sz_c, va_recv hK hP (ci := 12) (q0 := 0) rfl (gM_0 cs ad nu12_), sz_m hK hz⟩ rfl rfl hl.1 rfl (lv_room (Nat.le_of_ble_eq_true rfl)) dX12_mixTown_24 ⟨Nat.zero_le _, Nat.zero_le _⟩) hS (fun q _ h => hFc q h) hFc (fun xi51 t H51 locs ht hvm hw51 hB hz1 hk1 hS => ?_)
              have hP : va_P (dC, dI) vwCl (wR 21 ad (EM cs ad) xi51) H51 := by rw [← ht]; exact hB
              obtain ⟨ok, hw51, hkp51_0⟩ := hw51
              have kp52 : (∀ k f : Nat, Nat.testBit 510 (gpM k f) = true → xi51 k f = mu k f) := kp_t hkp51_0 (by decide) kq12_0
              refine lv_iinc (v := (v2_12 + 1)) (lv' := [(2, .int (v2_12 + 1)), (1, .int v1_2), (0, .ref (ad 0))]) hx hb dX12_mixTown_27 hl (k := 0) rfl rfl (by decide) rfl (fun ls hl => ?_)
              refine loc_gen (P := fun w9 => lv_has ls 3 [(2, .int w9), (1, .int v1_2), (0, .ref (ad 0))]) (v2_12 + 1) hl (fun w53 hw53 hl => ?_)
              have hl : lv_has ls 3 [(2, .int w53), (1, .int v1_2), (0, .ref (ad 0))] := hl
              have aw53 : w53.toInt = v2_12.toInt + 1 := by rw [← hw53]; exact tI_add (rfl : v2_12.toInt = _) (rfl : (1 : Int32).toInt = 1) (by omega) (by omega)
              refine lv_goto (tgt := 12) hx hb dX12_mixTown_30 (by decide) ?_
              exact ih12 (w53) xi51 _ _ _ (by omega) (by exact ⟨by omega, by omega⟩)  ok hP  kp52 hS (lv_sub hl [0, 1, 2] rfl)
        exact loop12 ((4 + 1 - (0 : Int32).toInt).toNat + 1) (0) nu2_ _ _ _ (Nat.lt_succ_self _) (by have h80 : (0 : Int32).toInt = 0 := rfl; exact ⟨by omega, by omega⟩)  ok hP  kq2_0 hS hl
  exact loop2 ((7 + 1 - (0 : Int32).toInt).toNat + 1) (0) mu _ _ _ (Nat.lt_succ_self _) (by have h80 : (0 : Int32).toInt = 0 := rfl; exact ⟨by omega, by omega⟩)  ok hP  (fun _ _ _ => rfl) hS hl
