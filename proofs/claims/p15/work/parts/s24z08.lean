set_option maxHeartbeats 4000000 in
set_option maxRecDepth 100000 in
/-- qx_post -/
theorem qx_post (l : Launch) (dC : Nat → ClassId) (dI : Nat → Nat → Nat) (cs : Nat → ClassId) (ad : Nat → Nat) (mu : Nat → Nat → Int32) (ok : okR loX hiX mu) (H : Heap) (hP : va_P (dC, dI) vwCl (wR 157 ad (EX cs ad) mu) H) (hD0 : va_D (fun _ => True) (wR 157 ad (EX cs ad) mu)) (vv : Int32) : Met l yX11_post (wU yX11_post cX11_post 6 (some .int)) ({ frames := 11, cells := 0, slots := 0, locals := 319 }) (va_Pc [.ref (ad 0), .int vv] (sz_P (dC, dI) vwCl (tyW cs) H)) (va_Qi (fun (z : Int32) (xi : Nat → Nat → Int32) => okR loX hiX xi ∧ (True) ∧ (∀ k f : Nat, Nat.testBit 510 (gpX k f) = true → xi k f = mu k f)) (fun xi t => va_P (dC, dI) vwCl (wR 157 ad (EX cs ad) xi) t.heap) (va_A (wR 157 ad (EX cs ad) mu) H.size)) 0 0 (va_A (wR 157 ad (EX cs ad) mu) H.size) := by
  refine Met.ofW (cc := cX11_post) (maxL := 6) (ret := (some .int)) (by decide) rfl ?_
  intro p e s m args below meth c s₁ B hml hv
  obtain ⟨rfl, hh, hK, hz⟩ := hv
  have hx := B.exec
  have hb := B.bytes
  have hr := B.returns
  have hts := atoms_spec (ws := (wU yX11_post cX11_post 6 (some .int))) B.pre
  have hown : s.vm.findClass RX11 = some m.cls := findClass_of_methodNamed B.named
  have hlocks := B.notSynchronized
  subst hh
  have hD := hD0.self (sz := s.heap.size)
  have hA : ∀ q : Nat, s.heap.size ≤ q → (va_A (wR 157 ad (EX cs ad) mu) s.heap.size) q := fun q h => Or.inr h
  have hS : va_S (va_A (wR 157 ad (EX cs ad) mu) s.heap.size) s.heap s.heap [] := va_S.rf
  have hl := lv_entry ([.ref (ad 0), .int vv]) (n := 6) (Nat.le_of_ble_eq_true rfl)
  rw [lg_entry_eq]
  generalize (lg_sl ([.ref (ad 0), .int vv]) ++ List.replicate (6 - (lg_sl ([.ref (ad 0), .int vv])).length) Slot.unset).toArray = ls at hl ⊢
  have hl : lv_has ls 6 [(0, .ref (ad 0)), (1, .int vv)] := hl
  refine lv_iload_n hx hb dX11_post_0 rfl (lv_at hl 1 rfl) ?_
  refine lv_if_lt (tgt := 10) hx hb dX11_post_1 (by decide) (fun c_1 => ?_) (fun c_1 => ?_)
  · have c_1 : vv.toInt < 0 := il_lt c_1
    refine lv_iconst (v := (-1)) hx hb dX11_post_10 (by decide) ?_
    exact W.iret (v := (-1)) hx hb hr (fun t ht hW => ⟨⟨(-1), mu, rfl, ⟨ok, trivial, (fun _ _ _ => rfl)⟩, by first | (subst ht; exact hP) | (rw [ht]; exact hP) | (show va_P (dC, dI) vwCl (wR 157 ad (EX cs ad) mu) t.heap; rw [ht]; exact hP)⟩, hS.F ht⟩) hS.2.2 dX11_post_11
  · have c_1 : 0 ≤ vv.toInt := il_nlt c_1
    refine lv_iload_n hx hb dX11_post_4 rfl (lv_at hl 1 rfl) ?_
    refine lv_bipush (v := 99) hx hb dX11_post_5 (by decide) ?_
    refine lv_icmp_le (tgt := 12) hx hb dX11_post_7 (by decide) (fun c_2 => ?_) (fun c_2 => ?_)
    · have c_2 : vv.toInt ≤ 99 := il_le c_2
      refine lv_iconst (v := 0) hx hb dX11_post_12 (by decide) ?_
      refine lv_istore_n (lv' := [(2, .int 0), (0, .ref (ad 0)), (1, .int vv)]) hx hb dX11_post_13 rfl hl (by decide) rfl (fun ls hl => ?_)
      refine lv_iconst (v := 0) hx hb dX11_post_14 (by decide) ?_
      refine lv_istore_n (lv' := [(3, .int 0), (2, .int 0), (0, .ref (ad 0)), (1, .int vv)]) hx hb dX11_post_15 rfl hl (by decide) rfl (fun ls hl => ?_)
      refine lv_iconst (v := 0) hx hb dX11_post_16 (by decide) ?_
      refine lv_istore (lv' := [(4, .int 0), (3, .int 0), (2, .int 0), (0, .ref (ad 0)), (1, .int vv)]) hx hb dX11_post_17 hl (by decide) rfl (fun ls hl => ?_)
      have loop19 : ∀ (n19 : Nat) (v2_19 : Int32) (v3_19 : Int32) (v4_19 : Int32) (nu19_ : Nat → Nat → Int32) (H : Heap) (locs : List Loc) (ls : Array Slot), (7 + 1 - v4_19.toInt).toNat < n19 → (0 ≤ v4_19.toInt ∧ v4_19.toInt ≤ 7) → okR loX hiX nu19_ → va_P (dC, dI) vwCl (wR 157 ad (EX cs ad) nu19_) H → (∀ k f : Nat, Nat.testBit 510 (gpX k f) = true → nu19_ k f = mu k f) → va_S (va_A (wR 157 ad (EX cs ad) mu) s.heap.size) s.heap H locs → lv_has ls 6 [(4, .int v4_19), (3, .int v3_19), (2, .int v2_19), (0, .ref (ad 0)), (1, .int vv)] → W p l e (headSpec (wU yX11_post cX11_post 6 (some .int)) ({ frames := 11, cells := 0, slots := 0, locals := 319 })).room s m ([.ref (ad 0), .int vv] : List Value).toArray below meth c H locs 0 0 (MQ below (va_Qi (fun (z : Int32) (xi : Nat → Nat → Int32) => okR loX hiX xi ∧ (True) ∧ (∀ k f : Nat, Nat.testBit 510 (gpX k f) = true → xi k f = mu k f)) (fun xi t => va_P (dC, dI) vwCl (wR 157 ad (EX cs ad) xi) t.heap) (va_A (wR 157 ad (EX cs ad) mu) s.heap.size)) ([.ref (ad 0), .int vv] : List Value).toArray s 0 0 (va_A (wR 157 ad (EX cs ad) mu) s.heap.size)) (F0 m 19 ls []) := by
        intro n19
        induction n19 with
        | zero => intro v2_19 v3_19 v4_19 nu19_ H locs ls hm; exact absurd hm (Nat.not_lt_zero _)
        | succ n19 ih19 =>
          intro v2_19 v3_19 v4_19 nu19_ H locs ls hm h_v4_19 ok hP kq19_0 hS hl
          refine lv_iload hx hb dX11_post_19 (lv_at hl 0 rfl) ?_
          refine lv_aload_n hx hb dX11_post_21 rfl (lv_at hl 3 rfl) ?_
          refine va_get (D := (dC, dI)) (ci := 11) (v := .ref (ad 4)) (C := RX11) (T := TX11) (N := 11) hx hb hts inG11 hown hK hP 0 (gX_0 cs ad nu19_) rfl 3 (by decide) (hts _ (List.mem_cons_of_mem _ mw_2_161)) (fun _ h9 => h9) rfl dX11_post_22 ?_
          refine va_get (D := (dC, dI)) (ci := 10) (v := .int (nu19_ 4 6)) (C := RX10) (T := TX10) (N := 8) hx hb hts inG10 hown hK hP 4 (gX_4 cs ad nu19_) rfl 6 (by decide) (hts _ (List.mem_cons_of_mem _ mw_1_164)) (fun _ h9 => h9) rfl dX11_post_25 ?_
          refine lv_topi (fun y3 ey3 => ?_)
          have by3 : y3.toInt = (nu19_ 4 6).toInt := congrArg Int32.toInt ey3
          have gy3 : 0 ≤ y3.toInt ∧ y3.toInt ≤ 7 := by rw [ey3]; exact rX_4_6 ok
          refine lv_icmp_ge (tgt := 119) hx hb dX11_post_28 (by decide) (fun c_4 => ?_) (fun c_4 => ?_)
          · have c_4 : y3.toInt ≤ v4_19.toInt := il_le c_4
            refine lv_aload_n hx hb dX11_post_119 rfl (lv_at hl 3 rfl) ?_
            refine lv_iload_n hx hb dX11_post_120 rfl (lv_at hl 1 rfl) ?_
            refine va_put (D := (dC, dI)) (ci := 11) (v := .int v3_19) (ty := .int) (C := RX11) (T := TX11) (N := 11) hx hb hts inG11 tyX11 tyX11_ok nmX11 hown hK hP (wR_D nu19_ hD) hS 0 (gX_0 cs ad nu19_) rfl 10 (by decide) (hts _ (List.mem_cons_of_mem _ mw_2_168)) (fun _ h9 => h9) rfl (by decide +kernel) rfl rfl (Nat.le_of_ble_eq_true rfl) dX11_post_121 (fun H locs hP _ hS => ?_)
            simp only [List.set_cons_succ, List.set_cons_zero] at hP
            refine wr_gen (upd (nu19_ 0) 10 v3_19) hP ((hX_0_10 cs ad _ _)) (fun nu5 hn5 hP => ?_)
            have ok := tX_0_10 ok hn5
            have ez6 : y3 = nu5 4 6 := ey3.trans (congrFun (up_k hn5 (by decide)) 6).symm
            have kp7 : (∀ k f : Nat, Nat.testBit 510 (gpX k f) = true → nu5 k f = mu k f) := kp_c 0 hn5 (fun _ => rfl) (by decide) kq19_0
            have ez8 : v3_19 = nu5 0 10 := up_v hn5
            refine lv_iload_n hx hb dX11_post_124 rfl (lv_at hl 2 rfl) ?_
            refine lv_iload_n hx hb dX11_post_125 rfl (lv_at hl 1 rfl) ?_
            refine lv_iadd hx hb dX11_post_126 ?_
            refine lv_topi (fun t9 et9 => ?_)
            exact W.iret (v := t9) hx hb hr (fun t ht hW => ⟨⟨t9, nu5, rfl, ⟨ok, trivial, kp7⟩, by first | (subst ht; exact hP) | (rw [ht]; exact hP) | (show va_P (dC, dI) vwCl (wR 157 ad (EX cs ad) nu5) t.heap; rw [ht]; exact hP)⟩, hS.F ht⟩) hS.2.2 dX11_post_127
          · have c_4 : v4_19.toInt < y3.toInt := il_nle c_4
            refine lv_iconst (v := 0) hx hb dX11_post_31 (by decide) ?_
            refine lv_istore (lv' := [(5, .int 0), (4, .int v4_19), (3, .int v3_19), (2, .int v2_19), (0, .ref (ad 0)), (1, .int vv)]) hx hb dX11_post_32 hl (by decide) rfl (fun ls hl => ?_)
            have loop34 : ∀ (n34 : Nat) (v2_34 : Int32) (v3_34 : Int32) (v5_34 : Int32) (nu34_ : Nat → Nat → Int32) (H : Heap) (locs : List Loc) (ls : Array Slot), (7 + 1 - v5_34.toInt).toNat < n34 → (0 ≤ v5_34.toInt ∧ v5_34.toInt ≤ 7) → okR loX hiX nu34_ → va_P (dC, dI) vwCl (wR 157 ad (EX cs ad) nu34_) H → (∀ k f : Nat, Nat.testBit 510 (gpX k f) = true → nu34_ k f = mu k f) → va_S (va_A (wR 157 ad (EX cs ad) mu) s.heap.size) s.heap H locs → lv_has ls 6 [(5, .int v5_34), (4, .int v4_19), (3, .int v3_34), (2, .int v2_34), (0, .ref (ad 0)), (1, .int vv)] → W p l e (headSpec (wU yX11_post cX11_post 6 (some .int)) ({ frames := 11, cells := 0, slots := 0, locals := 319 })).room s m ([.ref (ad 0), .int vv] : List Value).toArray below meth c H locs 0 0 (MQ below (va_Qi (fun (z : Int32) (xi : Nat → Nat → Int32) => okR loX hiX xi ∧ (True) ∧ (∀ k f : Nat, Nat.testBit 510 (gpX k f) = true → xi k f = mu k f)) (fun xi t => va_P (dC, dI) vwCl (wR 157 ad (EX cs ad) xi) t.heap) (va_A (wR 157 ad (EX cs ad) mu) s.heap.size)) ([.ref (ad 0), .int vv] : List Value).toArray s 0 0 (va_A (wR 157 ad (EX cs ad) mu) s.heap.size)) (F0 m 34 ls []) := by
              intro n34
              induction n34 with
              | zero => intro v2_34 v3_34 v5_34 nu34_ H locs ls hm; exact absurd hm (Nat.not_lt_zero _)
              | succ n34 ih34 =>
                intro v2_34 v3_34 v5_34 nu34_ H locs ls hm h_v5_34 ok hP kq34_0 hS hl
                refine lv_iload hx hb dX11_post_34 (lv_at hl 0 rfl) ?_
                refine lv_aload_n hx hb dX11_post_36 rfl (lv_at hl 4 rfl) ?_
                refine va_get (D := (dC, dI)) (ci := 11) (v := .ref (ad 4)) (C := RX11) (T := TX11) (N := 11) hx hb hts inG11 hown hK hP 0 (gX_0 cs ad nu34_) rfl 3 (by decide) (hts _ (List.mem_cons_of_mem _ mw_2_161)) (fun _ h9 => h9) rfl dX11_post_37 ?_
                refine va_get (D := (dC, dI)) (ci := 10) (v := .int (nu34_ 4 6)) (C := RX10) (T := TX10) (N := 8) hx hb hts inG10 hown hK hP 4 (gX_4 cs ad nu34_) rfl 6 (by decide) (hts _ (List.mem_cons_of_mem _ mw_1_164)) (fun _ h9 => h9) rfl dX11_post_40 ?_
                refine lv_topi (fun y10 ey10 => ?_)
                have by10 : y10.toInt = (nu34_ 4 6).toInt := congrArg Int32.toInt ey10
                have gy10 : 0 ≤ y10.toInt ∧ y10.toInt ≤ 7 := by rw [ey10]; exact rX_4_6 ok
                refine lv_icmp_ge (tgt := 113) hx hb dX11_post_43 (by decide) (fun c_11 => ?_) (fun c_11 => ?_)
                · have c_11 : y10.toInt ≤ v5_34.toInt := il_le c_11
                  refine lv_iinc (v := (v4_19 + 1)) (lv' := [(4, .int (v4_19 + 1)), (5, .int v5_34), (3, .int v3_34), (2, .int v2_34), (0, .ref (ad 0)), (1, .int vv)]) hx hb dX11_post_113 hl (k := 1) rfl rfl (by decide) rfl (fun ls hl => ?_)
                  refine loc_gen (P := fun w9 => lv_has ls 6 [(4, .int w9), (5, .int v5_34), (3, .int v3_34), (2, .int v2_34), (0, .ref (ad 0)), (1, .int vv)]) (v4_19 + 1) hl (fun w12 hw12 hl => ?_)
                  have hl : lv_has ls 6 [(4, .int w12), (5, .int v5_34), (3, .int v3_34), (2, .int v2_34), (0, .ref (ad 0)), (1, .int vv)] := hl
                  have aw12 : w12.toInt = v4_19.toInt + 1 := by rw [← hw12]; exact tI_add (rfl : v4_19.toInt = _) (rfl : (1 : Int32).toInt = 1) (by omega) (by omega)
                  refine lv_goto (tgt := 19) hx hb dX11_post_116 (by decide) ?_
                  exact ih19 (v2_34) (v3_34) (w12) nu34_ _ _ _ (by omega) (by exact ⟨by omega, by omega⟩)  ok hP  kq34_0 hS (lv_sub hl [0, 2, 3, 4, 5] rfl)
                · have c_11 : v5_34.toInt < y10.toInt := il_nle c_11
                  refine lv_iload hx hb dX11_post_46 (lv_at hl 1 rfl) ?_
                  refine lv_iload hx hb dX11_post_48 (lv_at hl 0 rfl) ?_
                  refine lv_icmp_ne (tgt := 56) hx hb dX11_post_50 (by decide) (fun c_13 => ?_) (fun c_13 => ?_)
                  · have c_13 : ¬ v4_19.toInt = v5_34.toInt := il_ne c_13
                    refine lv_aload_n hx hb dX11_post_56 rfl (lv_at hl 4 rfl) ?_
                    refine va_get (D := (dC, dI)) (ci := 11) (v := .ref (ad 32)) (C := RX11) (T := TX11) (N := 11) hx hb hts inG11 hown hK hP 0 (gX_0 cs ad nu34_) rfl 6 (by decide) (hts _ (List.mem_cons_of_mem _ mw_2_164)) (fun _ h9 => h9) rfl dX11_post_57 ?_
                    refine lv_aload_n hx hb dX11_post_60 rfl (lv_at hl 4 rfl) ?_
                    refine va_get (D := (dC, dI)) (ci := 11) (v := .ref (ad 4)) (C := RX11) (T := TX11) (N := 11) hx hb hts inG11 hown hK hP 0 (gX_0 cs ad nu34_) rfl 3 (by decide) (hts _ (List.mem_cons_of_mem _ mw_2_161)) (fun _ h9 => h9) rfl dX11_post_61 ?_
                    refine lv_iload hx hb dX11_post_64 (lv_at hl 1 rfl) ?_
                    refine lv_iload hx hb dX11_post_66 (lv_at hl 0 rfl) ?_
                    have hFc := fr_all (wR_D nu34_ hD) hS hA
                    refine va_callv (va_runV (As := [.ref (ad 4), .int v4_19, .int v5_34]) (rest := []) ⟨hx, hb, hml, hown, hts⟩ (sx_walkNew l dC dI cs ad nu34_ ok H hP ((wR_D nu34_ hD).weaken (fun _ _ _ _ => trivial)) v4_19 v5_34 (by omega)) (cwV 3 hts (wU_V mw_4_142 mw_4_139 mw_4_140 mw_4_141 mw_1_8) rfl rfl rfl (by decide +kernel) ⟨Nat.le_of_ble_eq_true rfl, Nat.le_of_ble_eq_true rfl⟩) ⟨sz_c, va_recv hK hP (ci := 5) (q0 := 32) rfl (gX_32 cs ad nu34_), sz_m hK hz⟩ rfl rfl hl.1 rfl (lv_room (Nat.le_of_ble_eq_true rfl)) dX11_post_68 ⟨Nat.zero_le _, Nat.zero_le _⟩) hS (fun q _ h => hFc q h) hFc (fun xi14 t H14 locs ht hvm hw14 hB hz1 hk1 hS => ?_)
                    have hP : va_P (dC, dI) vwCl (wR 157 ad (EX cs ad) xi14) H14 := by rw [← ht]; exact hB
                    obtain ⟨ok, hw14, hkp14_0⟩ := hw14
                    have kp15 : (∀ k f : Nat, Nat.testBit 510 (gpX k f) = true → xi14 k f = mu k f) := kp_t hkp14_0 (by decide) kq34_0
                    refine lv_aload_n hx hb dX11_post_71 rfl (lv_at hl 4 rfl) ?_
                    refine va_get (D := (dC, dI)) (ci := 11) (v := .ref (ad 32)) (C := RX11) (T := TX11) (N := 11) hx hb hts inG11 hown hK hP 0 (gX_0 cs ad xi14) rfl 6 (by decide) (hts _ (List.mem_cons_of_mem _ mw_2_164)) (fun _ h9 => h9) rfl dX11_post_72 ?_
                    refine va_get (D := (dC, dI)) (ci := 5) (v := .ref (ad 55)) (C := RX5) (T := TX5) (N := 15) hx hb hts inG5 hown hK hP 32 (gX_32 cs ad xi14) rfl 3 (by decide) (hts _ (List.mem_cons_of_mem _ mw_2_50)) (fun _ h9 => h9) rfl dX11_post_75 ?_
                    refine va_get (D := (dC, dI)) (ci := 0) (v := .int (xi14 55 3)) (C := RX0) (T := TX0) (N := 4) hx hb hts inG0 hown hK hP 55 (gX_55 cs ad xi14) rfl 3 (by decide) (hts _ (List.mem_cons_of_mem _ mw_2_36)) (fun _ h9 => h9) rfl dX11_post_78 ?_
                    refine lv_topi (fun y16 ey16 => ?_)
                    have by16 : y16.toInt = (xi14 55 3).toInt := congrArg Int32.toInt ey16
                    have gy16 : 0 ≤ y16.toInt ∧ y16.toInt ≤ 1 := by rw [ey16]; exact rX_55_3 ok
                    refine lv_if_ne (tgt := 90) hx hb dX11_post_81 (by decide) (fun c_17 => ?_) (fun c_17 => ?_)
                    · have c_17 : ¬ y16.toInt = 0 := il_ne c_17
                      refine lv_iload_n hx hb dX11_post_90 rfl (lv_at hl 5 rfl) ?_
                      refine lv_aload_n hx hb dX11_post_91 rfl (lv_at hl 4 rfl) ?_
                      refine va_get (D := (dC, dI)) (ci := 11) (v := .ref (ad 32)) (C := RX11) (T := TX11) (N := 11) hx hb hts inG11 hown hK hP 0 (gX_0 cs ad xi14) rfl 6 (by decide) (hts _ (List.mem_cons_of_mem _ mw_2_164)) (fun _ h9 => h9) rfl dX11_post_92 ?_
                      refine va_get (D := (dC, dI)) (ci := 5) (v := .ref (ad 55)) (C := RX5) (T := TX5) (N := 15) hx hb hts inG5 hown hK hP 32 (gX_32 cs ad xi14) rfl 3 (by decide) (hts _ (List.mem_cons_of_mem _ mw_2_50)) (fun _ h9 => h9) rfl dX11_post_95 ?_
                      refine va_get (D := (dC, dI)) (ci := 0) (v := .int (xi14 55 2)) (C := RX0) (T := TX0) (N := 4) hx hb hts inG0 hown hK hP 55 (gX_55 cs ad xi14) rfl 2 (by decide) (hts _ (List.mem_cons_of_mem _ mw_2_33)) (fun _ h9 => h9) rfl dX11_post_98 ?_
                      refine lv_topi (fun y18 ey18 => ?_)
                      have by18 : y18.toInt = (xi14 55 2).toInt := congrArg Int32.toInt ey18
                      refine lv_icmp_ge (tgt := 107) hx hb dX11_post_101 (by decide) (fun c_19 => ?_) (fun c_19 => ?_)
                      · have c_19 : y18.toInt ≤ vv.toInt := il_le c_19
                        refine lv_iinc (v := (v5_34 + 1)) (lv' := [(5, .int (v5_34 + 1)), (4, .int v4_19), (3, .int v3_34), (2, .int v2_34), (0, .ref (ad 0)), (1, .int vv)]) hx hb dX11_post_107 hl (k := 0) rfl rfl (by decide) rfl (fun ls hl => ?_)
                        refine loc_gen (P := fun w9 => lv_has ls 6 [(5, .int w9), (4, .int v4_19), (3, .int v3_34), (2, .int v2_34), (0, .ref (ad 0)), (1, .int vv)]) (v5_34 + 1) hl (fun w20 hw20 hl => ?_)
                        have hl : lv_has ls 6 [(5, .int w20), (4, .int v4_19), (3, .int v3_34), (2, .int v2_34), (0, .ref (ad 0)), (1, .int vv)] := hl
                        have aw20 : w20.toInt = v5_34.toInt + 1 := by rw [← hw20]; exact tI_add (rfl : v5_34.toInt = _) (rfl : (1 : Int32).toInt = 1) (by omega) (by omega)
                        refine lv_goto (tgt := 34) hx hb dX11_post_110 (by decide) ?_
                        exact ih34 (v2_34) (v3_34) (w20) xi14 _ _ _ (by omega) (by exact ⟨by omega, by omega⟩)  ok hP  kp15 hS (lv_sub hl [0, 1, 2, 3, 4, 5] rfl)
                      · have c_19 : vv.toInt < y18.toInt := il_nle c_19
                        refine lv_iinc (v := (v2_34 + 1)) (lv' := [(2, .int (v2_34 + 1)), (5, .int v5_34), (4, .int v4_19), (3, .int v3_34), (0, .ref (ad 0)), (1, .int vv)]) hx hb dX11_post_104 hl (k := 3) rfl rfl (by decide) rfl (fun ls hl => ?_)
                        refine loc_gen (P := fun w9 => lv_has ls 6 [(2, .int w9), (5, .int v5_34), (4, .int v4_19), (3, .int v3_34), (0, .ref (ad 0)), (1, .int vv)]) (v2_34 + 1) hl (fun w21 hw21 hl => ?_)
                        have hl : lv_has ls 6 [(2, .int w21), (5, .int v5_34), (4, .int v4_19), (3, .int v3_34), (0, .ref (ad 0)), (1, .int vv)] := hl
                        refine lv_iinc (v := (v5_34 + 1)) (lv' := [(5, .int (v5_34 + 1)), (2, .int w21), (4, .int v4_19), (3, .int v3_34), (0, .ref (ad 0)), (1, .int vv)]) hx hb dX11_post_107 hl (k := 1) rfl rfl (by decide) rfl (fun ls hl => ?_)
                        refine loc_gen (P := fun w9 => lv_has ls 6 [(5, .int w9), (2, .int w21), (4, .int v4_19), (3, .int v3_34), (0, .ref (ad 0)), (1, .int vv)]) (v5_34 + 1) hl (fun w22 hw22 hl => ?_)
                        have hl : lv_has ls 6 [(5, .int w22), (2, .int w21), (4, .int v4_19), (3, .int v3_34), (0, .ref (ad 0)), (1, .int vv)] := hl
                        have aw22 : w22.toInt = v5_34.toInt + 1 := by rw [← hw22]; exact tI_add (rfl : v5_34.toInt = _) (rfl : (1 : Int32).toInt = 1) (by omega) (by omega)
                        refine lv_goto (tgt := 34) hx hb dX11_post_110 (by decide) ?_
                        exact ih34 (w21) (v3_34) (w22) xi14 _ _ _ (by omega) (by exact ⟨by omega, by omega⟩)  ok hP  kp15 hS (lv_sub hl [0, 2, 3, 1, 4, 5] rfl)
                    · have c_17 : y16.toInt = 0 := il_eq c_17
                      refine lv_iinc (v := (v3_34 + 1)) (lv' := [(3, .int (v3_34 + 1)), (5, .int v5_34), (4, .int v4_19), (2, .int v2_34), (0, .ref (ad 0)), (1, .int vv)]) hx hb dX11_post_84 hl (k := 2) rfl rfl (by decide) rfl (fun ls hl => ?_)
                      refine loc_gen (P := fun w9 => lv_has ls 6 [(3, .int w9), (5, .int v5_34), (4, .int v4_19), (2, .int v2_34), (0, .ref (ad 0)), (1, .int vv)]) (v3_34 + 1) hl (fun w23 hw23 hl => ?_)
                      have hl : lv_has ls 6 [(3, .int w23), (5, .int v5_34), (4, .int v4_19), (2, .int v2_34), (0, .ref (ad 0)), (1, .int vv)] := hl
                      refine lv_goto (tgt := 107) hx hb dX11_post_87 (by decide) ?_
                      refine lv_iinc (v := (v5_34 + 1)) (lv' := [(5, .int (v5_34 + 1)), (3, .int w23), (4, .int v4_19), (2, .int v2_34), (0, .ref (ad 0)), (1, .int vv)]) hx hb dX11_post_107 hl (k := 1) rfl rfl (by decide) rfl (fun ls hl => ?_)
                      refine loc_gen (P := fun w9 => lv_has ls 6 [(5, .int w9), (3, .int w23), (4, .int v4_19), (2, .int v2_34), (0, .ref (ad 0)), (1, .int vv)]) (v5_34 + 1) hl (fun w24 hw24 hl => ?_)
                      have hl : lv_has ls 6 [(5, .int w24), (3, .int w23), (4, .int v4_19), (2, .int v2_34), (0, .ref (ad 0)), (1, .int vv)] := hl
                      have aw24 : w24.toInt = v5_34.toInt + 1 := by rw [← hw24]; exact tI_add (rfl : v5_34.toInt = _) (rfl : (1 : Int32).toInt = 1) (by omega) (by omega)
                      refine lv_goto (tgt := 34) hx hb dX11_post_110 (by decide) ?_
                      exact ih34 (v2_34) (w23) (w24) xi14 _ _ _ (by omega) (by exact ⟨by omega, by omega⟩)  ok hP  kp15 hS (lv_sub hl [0, 2, 1, 3, 4, 5] rfl)
                  · have c_13 : v4_19.toInt = v5_34.toInt := il_eq c_13
                    refine lv_goto (tgt := 107) hx hb dX11_post_53 (by decide) ?_
                    refine lv_iinc (v := (v5_34 + 1)) (lv' := [(5, .int (v5_34 + 1)), (4, .int v4_19), (3, .int v3_34), (2, .int v2_34), (0, .ref (ad 0)), (1, .int vv)]) hx hb dX11_post_107 hl (k := 0) rfl rfl (by decide) rfl (fun ls hl => ?_)
                    refine loc_gen (P := fun w9 => lv_has ls 6 [(5, .int w9), (4, .int v4_19), (3, .int v3_34), (2, .int v2_34), (0, .ref (ad 0)), (1, .int vv)]) (v5_34 + 1) hl (fun w25 hw25 hl => ?_)
                    have hl : lv_has ls 6 [(5, .int w25), (4, .int v4_19), (3, .int v3_34), (2, .int v2_34), (0, .ref (ad 0)), (1, .int vv)] := hl
                    have aw25 : w25.toInt = v5_34.toInt + 1 := by rw [← hw25]; exact tI_add (rfl : v5_34.toInt = _) (rfl : (1 : Int32).toInt = 1) (by omega) (by omega)
                    refine lv_goto (tgt := 34) hx hb dX11_post_110 (by decide) ?_
                    exact ih34 (v2_34) (v3_34) (w25) nu34_ _ _ _ (by omega) (by exact ⟨by omega, by omega⟩)  ok hP  kq34_0 hS (lv_sub hl [0, 1, 2, 3, 4, 5] rfl)
            exact loop34 ((7 + 1 - (0 : Int32).toInt).toNat + 1) (v2_19) (v3_19) (0) nu19_ _ _ _ (Nat.lt_succ_self _) (by have h80 : (0 : Int32).toInt = 0 := rfl; exact ⟨by omega, by omega⟩)  ok hP  kq19_0 hS hl
      exact loop19 ((7 + 1 - (0 : Int32).toInt).toNat + 1) (0) (0) (0) mu _ _ _ (Nat.lt_succ_self _) (by have h80 : (0 : Int32).toInt = 0 := rfl; exact ⟨by omega, by omega⟩)  ok hP  (fun _ _ _ => rfl) hS hl
    · have c_2 : 99 < vv.toInt := il_nle c_2
      refine lv_iconst (v := (-1)) hx hb dX11_post_10 (by decide) ?_
      exact W.iret (v := (-1)) hx hb hr (fun t ht hW => ⟨⟨(-1), mu, rfl, ⟨ok, trivial, (fun _ _ _ => rfl)⟩, by first | (subst ht; exact hP) | (rw [ht]; exact hP) | (show va_P (dC, dI) vwCl (wR 157 ad (EX cs ad) mu) t.heap; rw [ht]; exact hP)⟩, hS.F ht⟩) hS.2.2 dX11_post_11
