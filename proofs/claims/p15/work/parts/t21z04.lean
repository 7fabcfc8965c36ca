set_option maxHeartbeats 4000000 in
set_option maxRecDepth 100000 in
/-- qm_post -/
theorem qm_post (l : Launch) (dC : Nat → ClassId) (dI : Nat → Nat → Nat) (cs : Nat → ClassId) (ad : Nat → Nat) (mu : Nat → Nat → Int32) (ok : okR loM hiM mu) (H : Heap) (hP : va_P (dC, dI) vwCl (wR 21 ad (EM cs ad) mu) H) (hD0 : va_D (fun _ => True) (wR 21 ad (EM cs ad) mu)) (vv : Int32) : Met l yX12_post (wU yX12_post cX12_post 6 (some .int)) ({ frames := 10, cells := 0, slots := 0, locals := 259 }) (va_Pc [.ref (ad 0), .int vv] (sz_P (dC, dI) vwCl (tyM cs) H)) (va_Qi (fun (z : Int32) (xi : Nat → Nat → Int32) => okR loM hiM xi ∧ (True) ∧ (∀ k f : Nat, Nat.testBit 510 (gpM k f) = true → xi k f = mu k f)) (fun xi t => va_P (dC, dI) vwCl (wR 21 ad (EM cs ad) xi) t.heap) (va_A (wR 21 ad (EM cs ad) mu) H.size)) 0 0 (va_A (wR 21 ad (EM cs ad) mu) H.size) := by
  refine Met.ofW (cc := cX12_post) (maxL := 6) (ret := (some .int)) (by decide) rfl ?_
  intro p e s m args below meth c s₁ B hml hv
  obtain ⟨rfl, hh, hK, hz⟩ := hv
  have hx := B.exec
  have hb := B.bytes
  have hr := B.returns
  have hts := atoms_spec (ws := (wU yX12_post cX12_post 6 (some .int))) B.pre
  have hown : s.vm.findClass RX12 = some m.cls := findClass_of_methodNamed B.named
  have hlocks := B.notSynchronized
  subst hh
  have hD := hD0.self (sz := s.heap.size)
  have hA : ∀ q : Nat, s.heap.size ≤ q → (va_A (wR 21 ad (EM cs ad) mu) s.heap.size) q := fun q h => Or.inr h
  have hS : va_S (va_A (wR 21 ad (EM cs ad) mu) s.heap.size) s.heap s.heap [] := va_S.rf
  have hl := lv_entry ([.ref (ad 0), .int vv]) (n := 6) (Nat.le_of_ble_eq_true rfl)
  rw [lg_entry_eq]
  generalize (lg_sl ([.ref (ad 0), .int vv]) ++ List.replicate (6 - (lg_sl ([.ref (ad 0), .int vv])).length) Slot.unset).toArray = ls at hl ⊢
  have hl : lv_has ls 6 [(0, .ref (ad 0)), (1, .int vv)] := hl
  refine lv_iload_n hx hb dX12_post_0 rfl (lv_at hl 1 rfl) ?_
  refine lv_iconst (v := 0) hx hb dX12_post_1 (by decide) ?_
  refine lv_bipush (v := 99) hx hb dX12_post_2 (by decide) ?_
  refine cr_i (va_runS (As := [.int vv, .int 0, .int 99]) (rest := []) ⟨hx, hb, hml, hown, hts⟩ (sm_in l dC dI (tyM cs) s.heap vv 0 99) (va_cwS 3 hts (wU_S mw_5_189 mw_5_187 mw_5_188 mw_1_13) rfl rfl rfl (by decide +kernel) ⟨Nat.le_of_ble_eq_true rfl, Nat.le_of_ble_eq_true rfl⟩) ⟨sz_c, sz_m hK hz⟩ rfl rfl hl.1 rfl (lv_room (Nat.le_of_ble_eq_true rfl)) dX12_post_4 ⟨Nat.zero_le _, Nat.zero_le _⟩) hS (fun r1 hw1 locs hS => ?_)
  obtain ⟨hfe1, hw1⟩ := hw1
  rcases hw1 with ⟨rfl, f1⟩ | ⟨rfl, f1⟩
  · have f1 : (0 : Int) ≤ vv.toInt ∧ vv.toInt ≤ (99 : Int) := f1
    refine lv_if_ne (tgt := 12) hx hb dX12_post_7 (by decide) (fun _ => ?_) (fun c => absurd c (by decide))
    refine lv_aload_n hx hb dX12_post_12 rfl (lv_at hl 0 rfl) ?_
    refine lv_iconst (v := 1) hx hb dX12_post_13 (by decide) ?_
    refine va_put (D := (dC, dI)) (ci := 12) (v := .int 1) (ty := .boolean) (C := RX12) (T := TX12) (N := 46) hx hb hts inG12 tyX12 tyX12_ok nmX12 hown hK hP (wR_D mu hD) hS 0 (gM_0 cs ad mu) rfl 38 (by decide) (hts _ (List.mem_cons_of_mem _ mw_5_79)) (fun _ h9 => h9) rfl (by decide +kernel) (by first | rfl | decide) (by first | rfl | decide) (Nat.le_of_ble_eq_true rfl) dX12_post_14 (fun H locs hP _ hS => ?_)
    simp only [List.set_cons_succ, List.set_cons_zero] at hP
    refine wr_gen (upd (mu 0) 38 1) hP ((hM_0_38 cs ad _ _)) (fun nu2 hn2 hP => ?_)
    have ok := tM_0_38 ok hn2 (by have h9 : (1 : Int32).toInt = 1 := rfl; exact ⟨by omega, by omega⟩)
    have kp3 : (∀ k f : Nat, Nat.testBit 510 (gpM k f) = true → nu2 k f = mu k f) := kp_f hn2 (by decide) (fun _ _ _ => rfl)
    have ez4 : 1 = nu2 0 38 := up_v hn2
    refine lv_iconst (v := 0) hx hb dX12_post_17 (by decide) ?_
    refine lv_istore_n (lv' := [(2, .int 0), (0, .ref (ad 0)), (1, .int vv)]) hx hb dX12_post_18 rfl hl (by decide) rfl (fun ls hl => ?_)
    refine lv_iconst (v := 0) hx hb dX12_post_19 (by decide) ?_
    refine lv_istore_n (lv' := [(3, .int 0), (2, .int 0), (0, .ref (ad 0)), (1, .int vv)]) hx hb dX12_post_20 rfl hl (by decide) rfl (fun ls hl => ?_)
    refine lv_iconst (v := 0) hx hb dX12_post_21 (by decide) ?_
    refine lv_istore (lv' := [(4, .int 0), (3, .int 0), (2, .int 0), (0, .ref (ad 0)), (1, .int vv)]) hx hb dX12_post_22 hl (by decide) rfl (fun ls hl => ?_)
    have loop24 : ∀ (n24 : Nat) (v2_24 : Int32) (v3_24 : Int32) (v4_24 : Int32) (nu24_ : Nat → Nat → Int32) (H : Heap) (locs : List Loc) (ls : Array Slot), (7 + 1 - v4_24.toInt).toNat < n24 → (0 ≤ v4_24.toInt ∧ v4_24.toInt ≤ 7) → okR loM hiM nu24_ → va_P (dC, dI) vwCl (wR 21 ad (EM cs ad) nu24_) H → (∀ k f : Nat, Nat.testBit 510 (gpM k f) = true → nu24_ k f = mu k f) → va_S (va_A (wR 21 ad (EM cs ad) mu) s.heap.size) s.heap H locs → lv_has ls 6 [(4, .int v4_24), (3, .int v3_24), (2, .int v2_24), (0, .ref (ad 0)), (1, .int vv)] → W p l e (headSpec (wU yX12_post cX12_post 6 (some .int)) ({ frames := 10, cells := 0, slots := 0, locals := 259 })).room s m ([.ref (ad 0), .int vv] : List Value).toArray below meth c H locs 0 0 (MQ below (va_Qi (fun (z : Int32) (xi : Nat → Nat → Int32) => okR loM hiM xi ∧ (True) ∧ (∀ k f : Nat, Nat.testBit 510 (gpM k f) = true → xi k f = mu k f)) (fun xi t => va_P (dC, dI) vwCl (wR 21 ad (EM cs ad) xi) t.heap) (va_A (wR 21 ad (EM cs ad) mu) s.heap.size)) ([.ref (ad 0), .int vv] : List Value).toArray s 0 0 (va_A (wR 21 ad (EM cs ad) mu) s.heap.size)) (F0 m 24 ls []) := by
      intro n24
      induction n24 with
      | zero => intro v2_24 v3_24 v4_24 nu24_ H locs ls hm; exact absurd hm (Nat.not_lt_zero _)
      | succ n24 ih24 =>
        intro v2_24 v3_24 v4_24 nu24_ H locs ls hm h_v4_24 ok hP kq24_0 hS hl
        refine lv_iload hx hb dX12_post_24 (lv_at hl 0 rfl) ?_
        refine lv_aload_n hx hb dX12_post_26 rfl (lv_at hl 3 rfl) ?_
        refine va_get (D := (dC, dI)) (ci := 12) (v := .int (nu24_ 0 8)) (C := RX12) (T := TX12) (N := 46) hx hb hts inG12 hown hK hP 0 (gM_0 cs ad nu24_) rfl 8 (by decide) (hts _ (List.mem_cons_of_mem _ mw_5_49)) (fun _ h9 => h9) rfl dX12_post_27 ?_
        refine lv_topi (fun y5 ey5 => ?_)
        have by5 : y5.toInt = (nu24_ 0 8).toInt := congrArg Int32.toInt ey5
        have gy5 : 0 ≤ y5.toInt ∧ y5.toInt ≤ 7 := by rw [ey5]; exact rM_0_8 ok
        refine lv_icmp_ge (tgt := 106) hx hb dX12_post_30 (by decide) (fun c_6 => ?_) (fun c_6 => ?_)
        · have c_6 : y5.toInt ≤ v4_24.toInt := il_le c_6
          refine lv_aload_n hx hb dX12_post_106 rfl (lv_at hl 3 rfl) ?_
          refine lv_iload_n hx hb dX12_post_107 rfl (lv_at hl 1 rfl) ?_
          refine lv_iload_n hx hb dX12_post_108 rfl (lv_at hl 2 rfl) ?_
          have hFc := fr_all (wR_D nu24_ hD) hS hA
          refine va_calli (va_runV (As := [.int v3_24, .int v2_24]) (rest := []) ⟨hx, hb, hml, hown, hts⟩ (sm_ask l dC dI cs ad nu24_ ok H hP ((wR_D nu24_ hD).weaken (fun _ _ _ _ => trivial)) v3_24 v2_24) (cwV 2 hts (wU_V mw_5_213 mw_5_210 mw_5_212 mw_0_30 mw_1_13) rfl rfl rfl (by decide +kernel) ⟨Nat.le_of_ble_eq_true rfl, Nat.le_of_ble_eq_true rfl⟩) ⟨sz_c, va_recv hK hP (ci := 12) (q0 := 0) rfl (gM_0 cs ad nu24_), sz_m hK hz⟩ rfl rfl hl.1 rfl (lv_room (Nat.le_of_ble_eq_true rfl)) dX12_post_109 ⟨Nat.zero_le _, Nat.zero_le _⟩) hS (fun q _ h => hFc q h) hFc (fun r7 xi7 t H7 locs ht hvm hw7 hB hz1 hk1 hS => ?_)
          have hP : va_P (dC, dI) vwCl (wR 21 ad (EM cs ad) xi7) H7 := by rw [← ht]; exact hB
          obtain ⟨hfe7, ok, hw7, hkp7_0⟩ := hw7
          have kp8 : (∀ k f : Nat, Nat.testBit 510 (gpM k f) = true → xi7 k f = mu k f) := kp_t hkp7_0 (by decide) kq24_0
          have gr7 : r7.toInt = v2_24.toInt := hw7
          exact W.iret (v := r7) hx hb hr (fun t ht hW => ⟨⟨r7, xi7, rfl, ⟨ok, trivial, kp8⟩, by first | (subst ht; exact hP) | (rw [ht]; exact hP) | (show va_P (dC, dI) vwCl (wR 21 ad (EM cs ad) xi7) t.heap; rw [ht]; exact hP)⟩, hS.F ht⟩) hS.2.2 dX12_post_112
        · have c_6 : v4_24.toInt < y5.toInt := il_nle c_6
          refine lv_iconst (v := 0) hx hb dX12_post_33 (by decide) ?_
          refine lv_istore (lv' := [(5, .int 0), (4, .int v4_24), (3, .int v3_24), (2, .int v2_24), (0, .ref (ad 0)), (1, .int vv)]) hx hb dX12_post_34 hl (by decide) rfl (fun ls hl => ?_)
          have loop36 : ∀ (n36 : Nat) (v2_36 : Int32) (v3_36 : Int32) (v5_36 : Int32) (nu36_ : Nat → Nat → Int32) (H : Heap) (locs : List Loc) (ls : Array Slot), (7 + 1 - v5_36.toInt).toNat < n36 → (0 ≤ v5_36.toInt ∧ v5_36.toInt ≤ 7) → okR loM hiM nu36_ → va_P (dC, dI) vwCl (wR 21 ad (EM cs ad) nu36_) H → (∀ k f : Nat, Nat.testBit 510 (gpM k f) = true → nu36_ k f = mu k f) → va_S (va_A (wR 21 ad (EM cs ad) mu) s.heap.size) s.heap H locs → lv_has ls 6 [(5, .int v5_36), (4, .int v4_24), (3, .int v3_36), (2, .int v2_36), (0, .ref (ad 0)), (1, .int vv)] → W p l e (headSpec (wU yX12_post cX12_post 6 (some .int)) ({ frames := 10, cells := 0, slots := 0, locals := 259 })).room s m ([.ref (ad 0), .int vv] : List Value).toArray below meth c H locs 0 0 (MQ below (va_Qi (fun (z : Int32) (xi : Nat → Nat → Int32) => okR loM hiM xi ∧ (True) ∧ (∀ k f : Nat, Nat.testBit 510 (gpM k f) = true → xi k f = mu k f)) (fun xi t => va_P (dC, dI) vwCl (wR 21 ad (EM cs ad) xi) t.heap) (va_A (wR 21 ad (EM cs ad) mu) s.heap.size)) ([.ref (ad 0), .int vv] : List Value).toArray s 0 0 (va_A (wR 21 ad (EM cs ad) mu) s.heap.size)) (F0 m 36 ls []) := by
            intro n36
            induction n36 with
            | zero => intro v2_36 v3_36 v5_36 nu36_ H locs ls hm; exact absurd hm (Nat.not_lt_zero _)
            | succ n36 ih36 =>
              intro v2_36 v3_36 v5_36 nu36_ H locs ls hm h_v5_36 ok hP kq36_0 hS hl
              refine lv_iload hx hb dX12_post_36 (lv_at hl 0 rfl) ?_
              refine lv_aload_n hx hb dX12_post_38 rfl (lv_at hl 4 rfl) ?_
              refine va_get (D := (dC, dI)) (ci := 12) (v := .int (nu36_ 0 8)) (C := RX12) (T := TX12) (N := 46) hx hb hts inG12 hown hK hP 0 (gM_0 cs ad nu36_) rfl 8 (by decide) (hts _ (List.mem_cons_of_mem _ mw_5_49)) (fun _ h9 => h9) rfl dX12_post_39 ?_
              refine lv_topi (fun y9 ey9 => ?_)
              have by9 : y9.toInt = (nu36_ 0 8).toInt := congrArg Int32.toInt ey9
              have gy9 : 0 ≤ y9.toInt ∧ y9.toInt ≤ 7 := by rw [ey9]; exact rM_0_8 ok
              refine lv_icmp_ge (tgt := 100) hx hb dX12_post_42 (by decide) (fun c_10 => ?_) (fun c_10 => ?_)
              · have c_10 : y9.toInt ≤ v5_36.toInt := il_le c_10
                refine lv_iinc (v := (v4_24 + 1)) (lv' := [(4, .int (v4_24 + 1)), (5, .int v5_36), (3, .int v3_36), (2, .int v2_36), (0, .ref (ad 0)), (1, .int vv)]) hx hb dX12_post_100 hl (k := 1) rfl rfl (by decide) rfl (fun ls hl => ?_)
                refine loc_gen (P := fun w9 => lv_has ls 6 [(4, .int w9), (5, .int v5_36), (3, .int v3_36), (2, .int v2_36), (0, .ref (ad 0)), (1, .int vv)]) (v4_24 + 1) hl (fun w11 hw11 hl => ?_)
                have hl : lv_has ls 6 [(4, .int w11), (5, .int v5_36), (3, .int v3_36), (2, .int v2_36), (0, .ref (ad 0)), (1, .int vv)] := hl
                have aw11 : w11.toInt = v4_24.toInt + 1 := by rw [← hw11]; exact tI_add (rfl : v4_24.toInt = _) (rfl : (1 : Int32).toInt = 1) (by omega) (by omega)
                refine lv_goto (tgt := 24) hx hb dX12_post_103 (by decide) ?_
                exact ih24 (v2_36) (v3_36) (w11) nu36_ _ _ _ (by omega) (by exact ⟨by omega, by omega⟩)  ok hP  kq36_0 hS (lv_sub hl [0, 2, 3, 4, 5] rfl)
              · have c_10 : v5_36.toInt < y9.toInt := il_nle c_10
                refine lv_iload hx hb dX12_post_45 (lv_at hl 1 rfl) ?_
                refine lv_iload hx hb dX12_post_47 (lv_at hl 0 rfl) ?_
                refine lv_icmp_eq (tgt := 94) hx hb dX12_post_49 (by decide) (fun c_12 => ?_) (fun c_12 => ?_)
                · have c_12 : v4_24.toInt = v5_36.toInt := il_eq c_12
                  refine lv_iinc (v := (v5_36 + 1)) (lv' := [(5, .int (v5_36 + 1)), (4, .int v4_24), (3, .int v3_36), (2, .int v2_36), (0, .ref (ad 0)), (1, .int vv)]) hx hb dX12_post_94 hl (k := 0) rfl rfl (by decide) rfl (fun ls hl => ?_)
                  refine loc_gen (P := fun w9 => lv_has ls 6 [(5, .int w9), (4, .int v4_24), (3, .int v3_36), (2, .int v2_36), (0, .ref (ad 0)), (1, .int vv)]) (v5_36 + 1) hl (fun w13 hw13 hl => ?_)
                  have hl : lv_has ls 6 [(5, .int w13), (4, .int v4_24), (3, .int v3_36), (2, .int v2_36), (0, .ref (ad 0)), (1, .int vv)] := hl
                  have aw13 : w13.toInt = v5_36.toInt + 1 := by rw [← hw13]; exact tI_add (rfl : v5_36.toInt = _) (rfl : (1 : Int32).toInt = 1) (by omega) (by omega)
                  refine lv_goto (tgt := 36) hx hb dX12_post_97 (by decide) ?_
                  exact ih36 (v2_36) (v3_36) (w13) nu36_ _ _ _ (by omega) (by exact ⟨by omega, by omega⟩)  ok hP  kq36_0 hS (lv_sub hl [0, 1, 2, 3, 4, 5] rfl)
                · have c_12 : ¬ v4_24.toInt = v5_36.toInt := il_ne c_12
                  refine lv_aload_n hx hb dX12_post_52 rfl (lv_at hl 4 rfl) ?_
                  refine lv_bipush (v := (-9)) hx hb dX12_post_53 (by decide) ?_
                  refine lv_iload hx hb dX12_post_55 (lv_at hl 1 rfl) ?_
                  refine lv_iload hx hb dX12_post_57 (lv_at hl 0 rfl) ?_
                  refine lv_iconst (v := 0) hx hb dX12_post_59 (by decide) ?_
                  have hFc := fr_all (wR_D nu36_ hD) hS hA
                  refine va_callv (va_runV (As := [.int (-9), .int v4_24, .int v5_36, .int 0]) (rest := []) ⟨hx, hb, hml, hown, hts⟩ (sm_setRoutes l dC dI cs ad nu36_ ok H hP ((wR_D nu36_ hD).weaken (fun _ _ _ _ => trivial)) (-9) v4_24 v5_36 0 (by have h50 : ((-9) : Int32).toInt = -9 := rfl; have h53 : (0 : Int32).toInt = 0 := rfl; omega)) (cwV 4 hts (wU_V mw_6_178 mw_6_175 mw_6_177 mw_0_54 mw_1_13) rfl rfl rfl (by decide +kernel) ⟨Nat.le_of_ble_eq_true rfl, Nat.le_of_ble_eq_true rfl⟩) ⟨sz_c, va_recv hK hP (ci := 12) (q0 := 0) rfl (gM_0 cs ad nu36_), sz_m hK hz⟩ rfl rfl hl.1 rfl (lv_room (Nat.le_of_ble_eq_true rfl)) dX12_post_60 ⟨Nat.zero_le _, Nat.zero_le _⟩) hS (fun q _ h => hFc q h) hFc (fun xi14 t H14 locs ht hvm hw14 hB hz1 hk1 hS => ?_)
                  have hP : va_P (dC, dI) vwCl (wR 21 ad (EM cs ad) xi14) H14 := by rw [← ht]; exact hB
                  obtain ⟨ok, hw14, hkp14_0⟩ := hw14
                  have kp15 : (∀ k f : Nat, Nat.testBit 510 (gpM k f) = true → xi14 k f = mu k f) := kp_t hkp14_0 (by decide) kq36_0
                  have gr14 : ((xi14 0 39).toInt = -9 ∨ (0 ≤ (xi14 0 39).toInt ∧ (xi14 0 39).toInt ≤ 3)) ∧ ((xi14 0 33).toInt = 0 ∨ (xi14 0 35).toInt ≤ 7) := hw14
                  refine lv_iload_n hx hb dX12_post_63 rfl (lv_at hl 2 rfl) ?_
                  refine lv_aload_n hx hb dX12_post_64 rfl (lv_at hl 4 rfl) ?_
                  refine va_get (D := (dC, dI)) (ci := 12) (v := .int (xi14 0 30)) (C := RX12) (T := TX12) (N := 46) hx hb hts inG12 hown hK hP 0 (gM_0 cs ad xi14) rfl 30 (by decide) (hts _ (List.mem_cons_of_mem _ mw_5_71)) (fun _ h9 => h9) rfl dX12_post_65 ?_
                  refine lv_topi (fun y16 ey16 => ?_)
                  have by16 : y16.toInt = (xi14 0 30).toInt := congrArg Int32.toInt ey16
                  refine lv_if_ne (tgt := 75) hx hb dX12_post_68 (by decide) (fun c_17 => ?_) (fun c_17 => ?_)
                  · have c_17 : ¬ y16.toInt = 0 := il_ne c_17
                    refine lv_iconst (v := 0) hx hb dX12_post_75 (by decide) ?_
                    refine lv_iadd hx hb dX12_post_76 ?_
                    refine lv_topi (fun t18 et18 => ?_)
                    refine lv_istore_n (lv' := [(3, .int t18), (5, .int v5_36), (4, .int v4_24), (2, .int v2_36), (0, .ref (ad 0)), (1, .int vv)]) hx hb dX12_post_77 rfl hl (by decide) rfl (fun ls hl => ?_)
                    refine lv_iload_n hx hb dX12_post_78 rfl (lv_at hl 3 rfl) ?_
                    refine lv_iload_n hx hb dX12_post_79 rfl (lv_at hl 5 rfl) ?_
                    refine lv_aload_n hx hb dX12_post_80 rfl (lv_at hl 4 rfl) ?_
                    refine va_get (D := (dC, dI)) (ci := 12) (v := .int (xi14 0 31)) (C := RX12) (T := TX12) (N := 46) hx hb hts inG12 hown hK hP 0 (gM_0 cs ad xi14) rfl 31 (by decide) (hts _ (List.mem_cons_of_mem _ mw_5_72)) (fun _ h9 => h9) rfl dX12_post_81 ?_
                    refine lv_topi (fun y19 ey19 => ?_)
                    have by19 : y19.toInt = (xi14 0 31).toInt := congrArg Int32.toInt ey19
                    refine lv_icmp_ge (tgt := 91) hx hb dX12_post_84 (by decide) (fun c_20 => ?_) (fun c_20 => ?_)
                    · have c_20 : y19.toInt ≤ vv.toInt := il_le c_20
                      refine lv_iconst (v := 0) hx hb dX12_post_91 (by decide) ?_
                      refine lv_iadd hx hb dX12_post_92 ?_
                      refine lv_topi (fun t21 et21 => ?_)
                      refine lv_istore_n (lv' := [(2, .int t21), (3, .int t18), (5, .int v5_36), (4, .int v4_24), (0, .ref (ad 0)), (1, .int vv)]) hx hb dX12_post_93 rfl hl (by decide) rfl (fun ls hl => ?_)
                      refine lv_iinc (v := (v5_36 + 1)) (lv' := [(5, .int (v5_36 + 1)), (2, .int t21), (3, .int t18), (4, .int v4_24), (0, .ref (ad 0)), (1, .int vv)]) hx hb dX12_post_94 hl (k := 2) rfl rfl (by decide) rfl (fun ls hl => ?_)
                      refine loc_gen (P := fun w9 => lv_has ls 6 [(5, .int w9), (2, .int t21), (3, .int t18), (4, .int v4_24), (0, .ref (ad 0)), (1, .int vv)]) (v5_36 + 1) hl (fun w22 hw22 hl => ?_)
                      have hl : lv_has ls 6 [(5, .int w22), (2, .int t21), (3, .int t18), (4, .int v4_24), (0, .ref (ad 0)), (1, .int vv)] := hl
                      have aw22 : w22.toInt = v5_36.toInt + 1 := by rw [← hw22]; exact tI_add (rfl : v5_36.toInt = _) (rfl : (1 : Int32).toInt = 1) (by omega) (by omega)
                      refine lv_goto (tgt := 36) hx hb dX12_post_97 (by decide) ?_
                      exact ih36 (t21) (t18) (w22) xi14 _ _ _ (by omega) (by exact ⟨by omega, by omega⟩)  ok hP  kp15 hS (lv_sub hl [0, 3, 2, 1, 4, 5] rfl)
                    · have c_20 : vv.toInt < y19.toInt := il_nle c_20
                      refine lv_iconst (v := 1) hx hb dX12_post_87 (by decide) ?_
                      refine lv_goto (tgt := 92) hx hb dX12_post_88 (by decide) ?_
                      refine lv_iadd hx hb dX12_post_92 ?_
                      refine lv_topi (fun t23 et23 => ?_)
                      refine lv_istore_n (lv' := [(2, .int t23), (3, .int t18), (5, .int v5_36), (4, .int v4_24), (0, .ref (ad 0)), (1, .int vv)]) hx hb dX12_post_93 rfl hl (by decide) rfl (fun ls hl => ?_)
                      refine lv_iinc (v := (v5_36 + 1)) (lv' := [(5, .int (v5_36 + 1)), (2, .int t23), (3, .int t18), (4, .int v4_24), (0, .ref (ad 0)), (1, .int vv)]) hx hb dX12_post_94 hl (k := 2) rfl rfl (by decide) rfl (fun ls hl => ?_)
                      refine loc_gen (P := fun w9 => lv_has ls 6 [(5, .int w9), (2, .int t23), (3, .int t18), (4, .int v4_24), (0, .ref (ad 0)), (1, .int vv)]) (v5_36 + 1) hl (fun w24 hw24 hl => ?_)
                      have hl : lv_has ls 6 [(5, .int w24), (2, .int t23), (3, .int t18), (4, .int v4_24), (0, .ref (ad 0)), (1, .int vv)] := hl
                      have aw24 : w24.toInt = v5_36.toInt + 1 := by rw [← hw24]; exact tI_add (rfl : v5_36.toInt = _) (rfl : (1 : Int32).toInt = 1) (by omega) (by omega)
                      refine lv_goto (tgt := 36) hx hb dX12_post_97 (by decide) ?_
                      exact ih36 (t23) (t18) (w24) xi14 _ _ _ (by omega) (by exact ⟨by omega, by omega⟩)  ok hP  kp15 hS (lv_sub hl [0, 3, 2, 1, 4, 5] rfl)
                  · have c_17 : y16.toInt = 0 := il_eq c_17
                    refine lv_iconst (v := 1) hx hb dX12_post_71 (by decide) ?_
                    refine lv_goto (tgt := 76) hx hb dX12_post_72 (by decide) ?_
                    refine lv_iadd hx hb dX12_post_76 ?_
                    refine lv_topi (fun t25 et25 => ?_)
                    refine lv_istore_n (lv' := [(3, .int t25), (5, .int v5_36), (4, .int v4_24), (2, .int v2_36), (0, .ref (ad 0)), (1, .int vv)]) hx hb dX12_post_77 rfl hl (by decide) rfl (fun ls hl => ?_)
                    refine lv_iload_n hx hb dX12_post_78 rfl (lv_at hl 3 rfl) ?_
                    refine lv_iload_n hx hb dX12_post_79 rfl (lv_at hl 5 rfl) ?_
                    refine lv_aload_n hx hb dX12_post_80 rfl (lv_at hl 4 rfl) ?_
                    refine va_get (D := (dC, dI)) (ci := 12) (v := .int (xi14 0 31)) (C := RX12) (T := TX12) (N := 46) hx hb hts inG12 hown hK hP 0 (gM_0 cs ad xi14) rfl 31 (by decide) (hts _ (List.mem_cons_of_mem _ mw_5_72)) (fun _ h9 => h9) rfl dX12_post_81 ?_
                    refine lv_topi (fun y26 ey26 => ?_)
                    have by26 : y26.toInt = (xi14 0 31).toInt := congrArg Int32.toInt ey26
                    refine lv_icmp_ge (tgt := 91) hx hb dX12_post_84 (by decide) (fun c_27 => ?_) (fun c_27 => ?_)
                    · have c_27 : y26.toInt ≤ vv.toInt := il_le c_27
                      refine lv_iconst (v := 0) hx hb dX12_post_91 (by decide) ?_
                      refine lv_iadd hx hb dX12_post_92 ?_
                      refine lv_topi (fun t28 et28 => ?_)
                      refine lv_istore_n (lv' := [(2, .int t28), (3, .int t25), (5, .int v5_36), (4, .int v4_24), (0, .ref (ad 0)), (1, .int vv)]) hx hb dX12_post_93 rfl hl (by decide) rfl (fun ls hl => ?_)
                      refine lv_iinc (v := (v5_36 + 1)) (lv' := [(5, .int (v5_36 + 1)), (2, .int t28), (3, .int t25), (4, .int v4_24), (0, .ref (ad 0)), (1, .int vv)]) hx hb dX12_post_94 hl (k := 2) rfl rfl (by decide) rfl (fun ls hl => ?_)
                      refine loc_gen (P := fun w9 => lv_has ls 6 [(5, .int w9), (2, .int t28), (3, .int t25), (4, .int v4_24), (0, .ref (ad 0)), (1, .int vv)]) (v5_36 + 1) hl (fun w29 hw29 hl => ?_)
                      have hl : lv_has ls 6 [(5, .int w29), (2, .int t28), (3, .int t25), (4, .int v4_24), (0, .ref (ad 0)), (1, .int vv)] := hl
                      have aw29 : w29.toInt = v5_36.toInt + 1 := by rw [← hw29]; exact tI_add (rfl : v5_36.toInt = _) (rfl : (1 : Int32).toInt = 1) (by omega) (by omega)
                      refine lv_goto (tgt := 36) hx hb dX12_post_97 (by decide) ?_
                      exact ih36 (t28) (t25) (w29) xi14 _ _ _ (by omega) (by exact ⟨by omega, by omega⟩)  ok hP  kp15 hS (lv_sub hl [0, 3, 2, 1, 4, 5] rfl)
                    · have c_27 : vv.toInt < y26.toInt := il_nle c_27
                      refine lv_iconst (v := 1) hx hb dX12_post_87 (by decide) ?_
                      refine lv_goto (tgt := 92) hx hb dX12_post_88 (by decide) ?_
                      refine lv_iadd hx hb dX12_post_92 ?_
                      refine lv_topi (fun t30 et30 => ?_)
                      refine lv_istore_n (lv' := [(2, .int t30), (3, .int t25), (5, .int v5_36), (4, .int v4_24), (0, .ref (ad 0)), (1, .int vv)]) hx hb dX12_post_93 rfl hl (by decide) rfl (fun ls hl => ?_)
                      refine lv_iinc (v := (v5_36 + 1)) (lv' := [(5, .int (v5_36 + 1)), (2, .int t30), (3, .int t25), (4, .int v4_24), (0, .ref (ad 0)), (1, .int vv)]) hx hb dX12_post_94 hl (k := 2) rfl rfl (by decide) rfl (fun ls hl => ?_)
                      refine loc_gen (P := fun w9 => lv_has ls 6 [(5, .int w9), (2, .int t30), (3, .int t25), (4, .int v4_24), (0, .ref (ad 0)), (1, .int vv)]) (v5_36 + 1) hl (fun w31 hw31 hl => ?_)
                      have hl : lv_has ls 6 [(5, .int w31), (2, .int t30), (3, .int t25), (4, .int v4_24), (0, .ref (ad 0)), (1, .int vv)] := hl
                      have aw31 : w31.toInt = v5_36.toInt + 1 := by rw [← hw31]; exact tI_add (rfl : v5_36.toInt = _) (rfl : (1 : Int32).toInt = 1) (by omega) (by omega)
                      refine lv_goto (tgt := 36) hx hb dX12_post_97 (by decide) ?_
                      exact ih36 (t30) (t25) (w31) xi14 _ _ _ (by omega) (by exact ⟨by omega, by omega⟩)  ok hP  kp15 hS (lv_sub hl [0, 3, 2, 1, 4, 5] rfl)
          exact loop36 ((7 + 1 - (0 : Int32).toInt).toNat + 1) (v2_24) (v3_24) (0) nu24_ _ _ _ (Nat.lt_succ_self _) (by have h80 : (0 : Int32).toInt = 0 := rfl; exact ⟨by omega, by omega⟩)  ok hP  kq24_0 hS hl
    exact loop24 ((7 + 1 - (0 : Int32).toInt).toNat + 1) (0) (0) (0) nu2 _ _ _ (Nat.lt_succ_self _) (by have h80 : (0 : Int32).toInt = 0 := rfl; exact ⟨by omega, by omega⟩)  ok hP  kp3 hS hl
  · have f1 : vv.toInt < (0 : Int) ∨ (99 : Int) < vv.toInt := f1
    refine lv_if_ne (tgt := 12) hx hb dX12_post_7 (by decide) (fun c => absurd (by decide) c) (fun _ => ?_)
    refine lv_iconst (v := (-1)) hx hb dX12_post_10 (by decide) ?_
    exact W.iret (v := (-1)) hx hb hr (fun t ht hW => ⟨⟨(-1), mu, rfl, ⟨ok, trivial, (fun _ _ _ => rfl)⟩, by first | (subst ht; exact hP) | (rw [ht]; exact hP) | (show va_P (dC, dI) vwCl (wR 21 ad (EM cs ad) mu) t.heap; rw [ht]; exact hP)⟩, hS.F ht⟩) hS.2.2 dX12_post_11
