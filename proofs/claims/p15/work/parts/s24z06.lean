set_option maxHeartbeats 4000000 in
set_option maxRecDepth 100000 in
/-- qx_lend -/
theorem qx_lend (l : Launch) (dC : Nat → ClassId) (dI : Nat → Nat → Nat) (cs : Nat → ClassId) (ad : Nat → Nat) (mu : Nat → Nat → Int32) (ok : okR loX hiX mu) (H : Heap) (hP : va_P (dC, dI) vwCl (wR 157 ad (EX cs ad) mu) H) (hD0 : va_D (fun _ => True) (wR 157 ad (EX cs ad) mu)) (vk : Int32) : Met l yX11_lend (wU yX11_lend cX11_lend 7 (some .int)) ({ frames := 11, cells := 0, slots := 0, locals := 320 }) (va_Pc [.ref (ad 0), .int vk] (sz_P (dC, dI) vwCl (tyW cs) H)) (va_Qi (fun (z : Int32) (xi : Nat → Nat → Int32) => okR loX hiX xi ∧ (True) ∧ (∀ k f : Nat, Nat.testBit 510 (gpX k f) = true → xi k f = mu k f)) (fun xi t => va_P (dC, dI) vwCl (wR 157 ad (EX cs ad) xi) t.heap) (va_A (wR 157 ad (EX cs ad) mu) H.size)) 0 0 (va_A (wR 157 ad (EX cs ad) mu) H.size) := by
  refine Met.ofW (cc := cX11_lend) (maxL := 7) (ret := (some .int)) (by decide) rfl ?_
  intro p e s m args below meth c s₁ B hml hv
  obtain ⟨rfl, hh, hK, hz⟩ := hv
  have hx := B.exec
  have hb := B.bytes
  have hr := B.returns
  have hts := atoms_spec (ws := (wU yX11_lend cX11_lend 7 (some .int))) B.pre
  have hown : s.vm.findClass RX11 = some m.cls := findClass_of_methodNamed B.named
  have hlocks := B.notSynchronized
  subst hh
  have hD := hD0.self (sz := s.heap.size)
  have hA : ∀ q : Nat, s.heap.size ≤ q → (va_A (wR 157 ad (EX cs ad) mu) s.heap.size) q := fun q h => Or.inr h
  have hS : va_S (va_A (wR 157 ad (EX cs ad) mu) s.heap.size) s.heap s.heap [] := va_S.rf
  have hl := lv_entry ([.ref (ad 0), .int vk]) (n := 7) (Nat.le_of_ble_eq_true rfl)
  rw [lg_entry_eq]
  generalize (lg_sl ([.ref (ad 0), .int vk]) ++ List.replicate (7 - (lg_sl ([.ref (ad 0), .int vk])).length) Slot.unset).toArray = ls at hl ⊢
  have hl : lv_has ls 7 [(0, .ref (ad 0)), (1, .int vk)] := hl
  refine lv_aload_n hx hb dX11_lend_0 rfl (lv_at hl 0 rfl) ?_
  refine lv_iload_n hx hb dX11_lend_1 rfl (lv_at hl 1 rfl) ?_
  refine lv_iconst (v := 0) hx hb dX11_lend_2 (by decide) ?_
  have hFc := fr_all (wR_D mu hD) hS hA
  refine va_calli (va_runV (As := [.int vk, .int 0]) (rest := []) ⟨hx, hb, hml, hown, hts⟩ (sx_refusedRoute l dC dI cs ad mu ok s.heap hP ((wR_D mu hD).weaken (fun _ _ _ _ => trivial)) vk 0) (cwV 2 hts (wU_V mw_4_1 mw_3_238 mw_4_0 mw_0_9 mw_1_1) rfl rfl rfl (by decide +kernel) ⟨Nat.le_of_ble_eq_true rfl, Nat.le_of_ble_eq_true rfl⟩) ⟨sz_c, va_recv hK hP (ci := 11) (q0 := 0) rfl (gX_0 cs ad mu), sz_m hK hz⟩ rfl rfl hl.1 rfl (lv_room (Nat.le_of_ble_eq_true rfl)) dX11_lend_3 ⟨Nat.zero_le _, Nat.zero_le _⟩) hS (fun q _ h => hFc q h) hFc (fun r1 xi1 t H1 locs ht hvm hw1 hB hz1 hk1 hS => ?_)
  have hP : va_P (dC, dI) vwCl (wR 157 ad (EX cs ad) xi1) H1 := by rw [← ht]; exact hB
  rcases hw1 with ⟨rfl, hxi1, f1⟩ | ⟨z1, ok, hkp1_0⟩
  · have hP : va_P (dC, dI) vwCl (wR 157 ad (EX cs ad) mu) H1 := by rw [← hxi1]; exact hP
    have f1 : 0 ≤ vk.toInt ∧ vk.toInt < (mu 5 4).toInt ∧ (mu 5 4).toInt ≤ 4 ∧ (0 : Int) = 0 := f1
    refine lv_istore_n (lv' := [(2, .int 0), (0, .ref (ad 0)), (1, .int vk)]) hx hb dX11_lend_6 rfl hl (by decide) rfl (fun ls hl => ?_)
    refine lv_iload_n hx hb dX11_lend_7 rfl (lv_at hl 0 rfl) ?_
    refine lv_if_eq (tgt := 13) hx hb dX11_lend_8 (by decide) (fun _ => ?_) (fun c => absurd (by decide) c)
    refine lv_aload_n hx hb dX11_lend_13 rfl (lv_at hl 1 rfl) ?_
    refine va_get (D := (dC, dI)) (ci := 11) (v := .ref (ad 4)) (C := RX11) (T := TX11) (N := 11) hx hb hts inG11 hown hK hP 0 (gX_0 cs ad mu) rfl 3 (by decide) (hts _ (List.mem_cons_of_mem _ mw_2_161)) (fun _ h9 => h9) rfl dX11_lend_14 ?_
    refine va_get (D := (dC, dI)) (ci := 10) (v := .ref (ad 5)) (C := RX10) (T := TX10) (N := 8) hx hb hts inG10 hown hK hP 4 (gX_4 cs ad mu) rfl 3 (by decide) (hts _ (List.mem_cons_of_mem _ mw_1_157)) (fun _ h9 => h9) rfl dX11_lend_17 ?_
    refine va_get (D := (dC, dI)) (ci := 8) (v := .ref (ad 47)) (C := RX8) (T := TX8) (N := 6) hx hb hts inG8 hown hK hP 5 (gX_5 cs ad mu) rfl 1 (by decide) (hts _ (List.mem_cons_of_mem _ mw_1_112)) (fun _ h9 => h9) rfl dX11_lend_20 ?_
    refine lv_iload_n hx hb dX11_lend_23 rfl (lv_at hl 2 rfl) ?_
    have hx3 : 0 ≤ vk.toInt ∧ vk.toInt < ((4 : Nat) : Int) := ⟨by omega, by omega⟩
    refine va_aldq hx hb hK hP 47 5 (gX_47 cs ad mu) rfl (show vp_in vk 4 from vi_of hx3.1 hx3.2) dX11_lend_24 ?_
    have hk3 : 61 ≤ (61 + vk.toNatClampNeg) ∧ (61 + vk.toNatClampNeg) < 65 := ix_of hx3
    have hk3 : 61 ≤ (61 + vk.toNatClampNeg) ∧ (61 + vk.toNatClampNeg) < 77 := ⟨Nat.le_trans (by decide) hk3.1, Nat.lt_of_lt_of_le hk3.2 (by decide)⟩
    refine lq_v (.ref (ad (61 + vk.toNatClampNeg))) rfl ?_
    refine lv_astore_n (lv' := [(3, .ref (ad (61 + vk.toNatClampNeg))), (2, .int 0), (0, .ref (ad 0)), (1, .int vk)]) hx hb dX11_lend_25 rfl hl (by decide) rfl (fun ls hl => ?_)
    refine lv_aload_n hx hb dX11_lend_26 rfl (lv_at hl 2 rfl) ?_
    refine va_get (D := (dC, dI)) (ci := 11) (v := .ref (ad 32)) (C := RX11) (T := TX11) (N := 11) hx hb hts inG11 hown hK hP 0 (gX_0 cs ad mu) rfl 6 (by decide) (hts _ (List.mem_cons_of_mem _ mw_2_164)) (fun _ h9 => h9) rfl dX11_lend_27 ?_
    refine lv_aload_n hx hb dX11_lend_30 rfl (lv_at hl 2 rfl) ?_
    refine va_get (D := (dC, dI)) (ci := 11) (v := .ref (ad 4)) (C := RX11) (T := TX11) (N := 11) hx hb hts inG11 hown hK hP 0 (gX_0 cs ad mu) rfl 3 (by decide) (hts _ (List.mem_cons_of_mem _ mw_2_161)) (fun _ h9 => h9) rfl dX11_lend_31 ?_
    refine lv_aload_n hx hb dX11_lend_34 rfl (lv_at hl 0 rfl) ?_
    have hFc := fr_all (wR_D mu hD) hS hA
    refine va_callv (va_runV (As := [.ref (ad 4), .ref (ad (61 + vk.toNatClampNeg))]) (rest := []) ⟨hx, hb, hml, hown, hts⟩ (sx_lookAt l dC dI cs ad mu ok H1 hP ((wR_D mu hD).weaken (fun _ _ _ _ => trivial)) (61 + vk.toNatClampNeg) hk3.1 hk3.2) (cwV 2 hts (wU_V mw_4_9 mw_4_85 mw_4_7 mw_4_8 mw_1_8) rfl rfl rfl (by decide +kernel) ⟨Nat.le_of_ble_eq_true rfl, Nat.le_of_ble_eq_true rfl⟩) ⟨sz_c, va_recv hK hP (ci := 5) (q0 := 32) rfl (gX_32 cs ad mu), sz_m hK hz⟩ rfl rfl hl.1 rfl (lv_room (Nat.le_of_ble_eq_true rfl)) dX11_lend_35 ⟨Nat.zero_le _, Nat.zero_le _⟩) hS (fun q _ h => hFc q h) hFc (fun xi4 t H4 locs ht hvm hw4 hB hz1 hk1 hS => ?_)
    have hP : va_P (dC, dI) vwCl (wR 157 ad (EX cs ad) xi4) H4 := by rw [← ht]; exact hB
    obtain ⟨ok, hw4, hkp4_0⟩ := hw4
    have kp5 : (∀ k f : Nat, Nat.testBit 510 (gpX k f) = true → xi4 k f = mu k f) := kp_t hkp4_0 (by decide) (fun _ _ _ => rfl)
    refine lv_bipush (v := (-9)) hx hb dX11_lend_38 (by decide) ?_
    refine lv_istore (lv' := [(4, .int (-9)), (3, .ref (ad (61 + vk.toNatClampNeg))), (2, .int 0), (0, .ref (ad 0)), (1, .int vk)]) hx hb dX11_lend_40 hl (by decide) rfl (fun ls hl => ?_)
    refine lv_iconst (v := 0) hx hb dX11_lend_42 (by decide) ?_
    refine lv_istore (lv' := [(5, .int 0), (4, .int (-9)), (3, .ref (ad (61 + vk.toNatClampNeg))), (2, .int 0), (0, .ref (ad 0)), (1, .int vk)]) hx hb dX11_lend_43 hl (by decide) rfl (fun ls hl => ?_)
    refine lv_iconst (v := 0) hx hb dX11_lend_45 (by decide) ?_
    refine lv_istore (lv' := [(6, .int 0), (5, .int 0), (4, .int (-9)), (3, .ref (ad (61 + vk.toNatClampNeg))), (2, .int 0), (0, .ref (ad 0)), (1, .int vk)]) hx hb dX11_lend_46 hl (by decide) rfl (fun ls hl => ?_)
    have loop48 : ∀ (n48 : Nat) (v4_48 : Int32) (v5_48 : Int32) (v6_48 : Int32) (nu48_ : Nat → Nat → Int32) (H : Heap) (locs : List Loc) (ls : Array Slot), (7 + 1 - v6_48.toInt).toNat < n48 → (0 ≤ v6_48.toInt ∧ v6_48.toInt ≤ 7) → okR loX hiX nu48_ → va_P (dC, dI) vwCl (wR 157 ad (EX cs ad) nu48_) H → (∀ k f : Nat, Nat.testBit 510 (gpX k f) = true → nu48_ k f = mu k f) → va_S (va_A (wR 157 ad (EX cs ad) mu) s.heap.size) s.heap H locs → lv_has ls 7 [(6, .int v6_48), (5, .int v5_48), (4, .int v4_48), (3, .ref (ad (61 + vk.toNatClampNeg))), (2, .int 0), (0, .ref (ad 0)), (1, .int vk)] → W p l e (headSpec (wU yX11_lend cX11_lend 7 (some .int)) ({ frames := 11, cells := 0, slots := 0, locals := 320 })).room s m ([.ref (ad 0), .int vk] : List Value).toArray below meth c H locs 0 0 (MQ below (va_Qi (fun (z : Int32) (xi : Nat → Nat → Int32) => okR loX hiX xi ∧ (True) ∧ (∀ k f : Nat, Nat.testBit 510 (gpX k f) = true → xi k f = mu k f)) (fun xi t => va_P (dC, dI) vwCl (wR 157 ad (EX cs ad) xi) t.heap) (va_A (wR 157 ad (EX cs ad) mu) s.heap.size)) ([.ref (ad 0), .int vk] : List Value).toArray s 0 0 (va_A (wR 157 ad (EX cs ad) mu) s.heap.size)) (F0 m 48 ls []) := by
      intro n48
      induction n48 with
      | zero => intro v4_48 v5_48 v6_48 nu48_ H locs ls hm; exact absurd hm (Nat.not_lt_zero _)
      | succ n48 ih48 =>
        intro v4_48 v5_48 v6_48 nu48_ H locs ls hm h_v6_48 ok hP kq48_0 hS hl
        refine lv_iload hx hb dX11_lend_48 (lv_at hl 0 rfl) ?_
        refine lv_aload_n hx hb dX11_lend_50 rfl (lv_at hl 5 rfl) ?_
        refine va_get (D := (dC, dI)) (ci := 11) (v := .ref (ad 4)) (C := RX11) (T := TX11) (N := 11) hx hb hts inG11 hown hK hP 0 (gX_0 cs ad nu48_) rfl 3 (by decide) (hts _ (List.mem_cons_of_mem _ mw_2_161)) (fun _ h9 => h9) rfl dX11_lend_51 ?_
        refine va_get (D := (dC, dI)) (ci := 10) (v := .int (nu48_ 4 6)) (C := RX10) (T := TX10) (N := 8) hx hb hts inG10 hown hK hP 4 (gX_4 cs ad nu48_) rfl 6 (by decide) (hts _ (List.mem_cons_of_mem _ mw_1_164)) (fun _ h9 => h9) rfl dX11_lend_54 ?_
        refine lv_topi (fun y6 ey6 => ?_)
        have by6 : y6.toInt = (nu48_ 4 6).toInt := congrArg Int32.toInt ey6
        have gy6 : 0 ≤ y6.toInt ∧ y6.toInt ≤ 7 := by rw [ey6]; exact rX_4_6 ok
        refine lv_icmp_ge (tgt := 167) hx hb dX11_lend_57 (by decide) (fun c_7 => ?_) (fun c_7 => ?_)
        · have c_7 : y6.toInt ≤ v6_48.toInt := il_le c_7
          refine lv_iload hx hb dX11_lend_167 (lv_at hl 2 rfl) ?_
          refine lv_bipush (v := (-9)) hx hb dX11_lend_169 (by decide) ?_
          refine lv_icmp_eq (tgt := 180) hx hb dX11_lend_171 (by decide) (fun c_8 => ?_) (fun c_8 => ?_)
          · have c_8 : v4_48.toInt = -9 := il_eq c_8
            refine lv_iload hx hb dX11_lend_180 (lv_at hl 2 rfl) ?_
            exact W.iret (v := v4_48) hx hb hr (fun t ht hW => ⟨⟨v4_48, nu48_, rfl, ⟨ok, trivial, kq48_0⟩, by first | (subst ht; exact hP) | (rw [ht]; exact hP) | (show va_P (dC, dI) vwCl (wR 157 ad (EX cs ad) nu48_) t.heap; rw [ht]; exact hP)⟩, hS.F ht⟩) hS.2.2 dX11_lend_182
          · have c_8 : ¬ v4_48.toInt = -9 := il_ne c_8
            refine lv_aload_n hx hb dX11_lend_174 rfl (lv_at hl 5 rfl) ?_
            refine lv_iload hx hb dX11_lend_175 (lv_at hl 1 rfl) ?_
            refine va_put (D := (dC, dI)) (ci := 11) (v := .int v5_48) (ty := .int) (C := RX11) (T := TX11) (N := 11) hx hb hts inG11 tyX11 tyX11_ok nmX11 hown hK hP (wR_D nu48_ hD) hS 0 (gX_0 cs ad nu48_) rfl 10 (by decide) (hts _ (List.mem_cons_of_mem _ mw_2_168)) (fun _ h9 => h9) rfl (by decide +kernel) rfl rfl (Nat.le_of_ble_eq_true rfl) dX11_lend_177 (fun H locs hP _ hS => ?_)
            simp only [List.set_cons_succ, List.set_cons_zero] at hP
            refine wr_gen (upd (nu48_ 0) 10 v5_48) hP ((hX_0_10 cs ad _ _)) (fun nu9 hn9 hP => ?_)
            have ok := tX_0_10 ok hn9
            have ez10 : y6 = nu9 4 6 := ey6.trans (congrFun (up_k hn9 (by decide)) 6).symm
            have kp11 : (∀ k f : Nat, Nat.testBit 510 (gpX k f) = true → nu9 k f = mu k f) := kp_c 0 hn9 (fun _ => rfl) (by decide) kq48_0
            have ez12 : v5_48 = nu9 0 10 := up_v hn9
            refine lv_iload hx hb dX11_lend_180 (lv_at hl 2 rfl) ?_
            exact W.iret (v := v4_48) hx hb hr (fun t ht hW => ⟨⟨v4_48, nu9, rfl, ⟨ok, trivial, kp11⟩, by first | (subst ht; exact hP) | (rw [ht]; exact hP) | (show va_P (dC, dI) vwCl (wR 157 ad (EX cs ad) nu9) t.heap; rw [ht]; exact hP)⟩, hS.F ht⟩) hS.2.2 dX11_lend_182
        · have c_7 : v6_48.toInt < y6.toInt := il_nle c_7
          refine lv_iload hx hb dX11_lend_60 (lv_at hl 0 rfl) ?_
          refine lv_aload_n hx hb dX11_lend_62 rfl (lv_at hl 3 rfl) ?_
          refine va_get (D := (dC, dI)) (ci := 3) (v := .int (nu48_ (61 + vk.toNatClampNeg) 5)) (C := RX3) (T := TX3) (N := 10) hx hb hts inG3 hown hK hP (61 + vk.toNatClampNeg) (gX_letter cs ad nu48_ (61 + vk.toNatClampNeg) hk3.1 hk3.2) rfl 5 (by decide) (hts _ (List.mem_cons_of_mem _ mw_1_65)) (fun _ h9 => h9) rfl dX11_lend_63 ?_
          refine lv_topi (fun y13 ey13 => ?_)
          have by13 : y13.toInt = (nu48_ (61 + vk.toNatClampNeg) 5).toInt := congrArg Int32.toInt ey13
          have gy13 : 0 ≤ y13.toInt ∧ y13.toInt ≤ 6 := by rw [ey13]; exact rX_letter_5 ok (61 + vk.toNatClampNeg) hk3.1 hk3.2
          refine lv_icmp_eq (tgt := 161) hx hb dX11_lend_66 (by decide) (fun c_14 => ?_) (fun c_14 => ?_)
          · have c_14 : v6_48.toInt = y13.toInt := il_eq c_14
            refine lv_iinc (v := (v6_48 + 1)) (lv' := [(6, .int (v6_48 + 1)), (5, .int v5_48), (4, .int v4_48), (3, .ref (ad (61 + vk.toNatClampNeg))), (2, .int 0), (0, .ref (ad 0)), (1, .int vk)]) hx hb dX11_lend_161 hl (k := 0) rfl rfl (by decide) rfl (fun ls hl => ?_)
            refine loc_gen (P := fun w9 => lv_has ls 7 [(6, .int w9), (5, .int v5_48), (4, .int v4_48), (3, .ref (ad (61 + vk.toNatClampNeg))), (2, .int 0), (0, .ref (ad 0)), (1, .int vk)]) (v6_48 + 1) hl (fun w15 hw15 hl => ?_)
            have hl : lv_has ls 7 [(6, .int w15), (5, .int v5_48), (4, .int v4_48), (3, .ref (ad (61 + vk.toNatClampNeg))), (2, .int 0), (0, .ref (ad 0)), (1, .int vk)] := hl
            have aw15 : w15.toInt = v6_48.toInt + 1 := by rw [← hw15]; exact tI_add (rfl : v6_48.toInt = _) (rfl : (1 : Int32).toInt = 1) (by omega) (by omega)
            refine lv_goto (tgt := 48) hx hb dX11_lend_164 (by decide) ?_
            exact ih48 (v4_48) (v5_48) (w15) nu48_ _ _ _ (by omega) (by exact ⟨by omega, by omega⟩)  ok hP  kq48_0 hS (lv_sub hl [0, 1, 2, 3, 4, 5, 6] rfl)
          · have c_14 : ¬ v6_48.toInt = y13.toInt := il_ne c_14
            refine lv_aload_n hx hb dX11_lend_69 rfl (lv_at hl 5 rfl) ?_
            refine va_get (D := (dC, dI)) (ci := 11) (v := .ref (ad 4)) (C := RX11) (T := TX11) (N := 11) hx hb hts inG11 hown hK hP 0 (gX_0 cs ad nu48_) rfl 3 (by decide) (hts _ (List.mem_cons_of_mem _ mw_2_161)) (fun _ h9 => h9) rfl dX11_lend_70 ?_
            refine va_get (D := (dC, dI)) (ci := 10) (v := .ref (ad 34)) (C := RX10) (T := TX10) (N := 8) hx hb hts inG10 hown hK hP 4 (gX_4 cs ad nu48_) rfl 0 (by decide) (hts _ (List.mem_cons_of_mem _ mw_1_147)) (fun _ h9 => h9) rfl dX11_lend_73 ?_
            refine lv_iload hx hb dX11_lend_76 (lv_at hl 0 rfl) ?_
            refine va_iald hx hb hK hP 34 0 (gX_34 cs ad nu48_) rfl (show vp_in v6_48 7 from vi_of (by omega) (by omega)) dX11_lend_78 ?_
            refine lv_topi (fun y16 ey16 => ?_)
            have by16 : y16.toInt = (nu48_ 34 v6_48.toNatClampNeg).toInt := congrArg Int32.toInt ey16
            refine lv_iconst (v := 3) hx hb dX11_lend_79 (by decide) ?_
            refine lv_icmp_ne (tgt := 95) hx hb dX11_lend_80 (by decide) (fun c_17 => ?_) (fun c_17 => ?_)
            · have c_17 : ¬ y16.toInt = 3 := il_ne c_17
              refine lv_aload_n hx hb dX11_lend_95 rfl (lv_at hl 5 rfl) ?_
              refine va_get (D := (dC, dI)) (ci := 11) (v := .ref (ad 32)) (C := RX11) (T := TX11) (N := 11) hx hb hts inG11 hown hK hP 0 (gX_0 cs ad nu48_) rfl 6 (by decide) (hts _ (List.mem_cons_of_mem _ mw_2_164)) (fun _ h9 => h9) rfl dX11_lend_96 ?_
              refine lv_aload_n hx hb dX11_lend_99 rfl (lv_at hl 5 rfl) ?_
              refine va_get (D := (dC, dI)) (ci := 11) (v := .ref (ad 4)) (C := RX11) (T := TX11) (N := 11) hx hb hts inG11 hown hK hP 0 (gX_0 cs ad nu48_) rfl 3 (by decide) (hts _ (List.mem_cons_of_mem _ mw_2_161)) (fun _ h9 => h9) rfl dX11_lend_100 ?_
              refine lv_iload hx hb dX11_lend_103 (lv_at hl 0 rfl) ?_
              refine lv_bipush (v := 99) hx hb dX11_lend_105 (by decide) ?_
              have hFc := fr_all (wR_D nu48_ hD) hS hA
              refine va_callv (va_runV (As := [.ref (ad 4), .int v6_48, .int 99]) (rest := []) ⟨hx, hb, hml, hown, hts⟩ (sx_walkWithLoan l dC dI cs ad nu48_ ok H hP ((wR_D nu48_ hD).weaken (fun _ _ _ _ => trivial)) v6_48 99 (by have h52 : (99 : Int32).toInt = 99 := rfl; omega)) (cwV 3 hts (wU_V mw_4_89 mw_4_86 mw_4_87 mw_4_88 mw_1_8) rfl rfl rfl (by decide +kernel) ⟨Nat.le_of_ble_eq_true rfl, Nat.le_of_ble_eq_true rfl⟩) ⟨sz_c, va_recv hK hP (ci := 5) (q0 := 32) rfl (gX_32 cs ad nu48_), sz_m hK hz⟩ rfl rfl hl.1 rfl (lv_room (Nat.le_of_ble_eq_true rfl)) dX11_lend_107 ⟨Nat.zero_le _, Nat.zero_le _⟩) hS (fun q _ h => hFc q h) hFc (fun xi18 t H18 locs ht hvm hw18 hB hz1 hk1 hS => ?_)
              have hP : va_P (dC, dI) vwCl (wR 157 ad (EX cs ad) xi18) H18 := by rw [← ht]; exact hB
              obtain ⟨ok, hw18, hkp18_0⟩ := hw18
              have kp19 : (∀ k f : Nat, Nat.testBit 510 (gpX k f) = true → xi18 k f = mu k f) := kp_t hkp18_0 (by decide) kq48_0
              refine lv_aload_n hx hb dX11_lend_110 rfl (lv_at hl 5 rfl) ?_
              refine va_get (D := (dC, dI)) (ci := 11) (v := .ref (ad 32)) (C := RX11) (T := TX11) (N := 11) hx hb hts inG11 hown hK hP 0 (gX_0 cs ad xi18) rfl 6 (by decide) (hts _ (List.mem_cons_of_mem _ mw_2_164)) (fun _ h9 => h9) rfl dX11_lend_111 ?_
              refine va_get (D := (dC, dI)) (ci := 5) (v := .ref (ad 55)) (C := RX5) (T := TX5) (N := 15) hx hb hts inG5 hown hK hP 32 (gX_32 cs ad xi18) rfl 3 (by decide) (hts _ (List.mem_cons_of_mem _ mw_2_50)) (fun _ h9 => h9) rfl dX11_lend_114 ?_
              refine va_get (D := (dC, dI)) (ci := 0) (v := .int (xi18 55 3)) (C := RX0) (T := TX0) (N := 4) hx hb hts inG0 hown hK hP 55 (gX_55 cs ad xi18) rfl 3 (by decide) (hts _ (List.mem_cons_of_mem _ mw_2_36)) (fun _ h9 => h9) rfl dX11_lend_117 ?_
              refine lv_topi (fun y20 ey20 => ?_)
              have by20 : y20.toInt = (xi18 55 3).toInt := congrArg Int32.toInt ey20
              have gy20 : 0 ≤ y20.toInt ∧ y20.toInt ≤ 1 := by rw [ey20]; exact rX_55_3 ok
              refine lv_if_eq (tgt := 161) hx hb dX11_lend_120 (by decide) (fun c_21 => ?_) (fun c_21 => ?_)
              · have c_21 : y20.toInt = 0 := il_eq c_21
                refine lv_iinc (v := (v6_48 + 1)) (lv' := [(6, .int (v6_48 + 1)), (5, .int v5_48), (4, .int v4_48), (3, .ref (ad (61 + vk.toNatClampNeg))), (2, .int 0), (0, .ref (ad 0)), (1, .int vk)]) hx hb dX11_lend_161 hl (k := 0) rfl rfl (by decide) rfl (fun ls hl => ?_)
                refine loc_gen (P := fun w9 => lv_has ls 7 [(6, .int w9), (5, .int v5_48), (4, .int v4_48), (3, .ref (ad (61 + vk.toNatClampNeg))), (2, .int 0), (0, .ref (ad 0)), (1, .int vk)]) (v6_48 + 1) hl (fun w22 hw22 hl => ?_)
                have hl : lv_has ls 7 [(6, .int w22), (5, .int v5_48), (4, .int v4_48), (3, .ref (ad (61 + vk.toNatClampNeg))), (2, .int 0), (0, .ref (ad 0)), (1, .int vk)] := hl
                have aw22 : w22.toInt = v6_48.toInt + 1 := by rw [← hw22]; exact tI_add (rfl : v6_48.toInt = _) (rfl : (1 : Int32).toInt = 1) (by omega) (by omega)
                refine lv_goto (tgt := 48) hx hb dX11_lend_164 (by decide) ?_
                exact ih48 (v4_48) (v5_48) (w22) xi18 _ _ _ (by omega) (by exact ⟨by omega, by omega⟩)  ok hP  kp19 hS (lv_sub hl [0, 1, 2, 3, 4, 5, 6] rfl)
              · have c_21 : ¬ y20.toInt = 0 := il_ne c_21
                refine lv_iload hx hb dX11_lend_123 (lv_at hl 2 rfl) ?_
                refine lv_bipush (v := (-9)) hx hb dX11_lend_125 (by decide) ?_
                refine lv_icmp_eq (tgt := 145) hx hb dX11_lend_127 (by decide) (fun c_23 => ?_) (fun c_23 => ?_)
                · have c_23 : v4_48.toInt = -9 := il_eq c_23
                  refine lv_iload hx hb dX11_lend_145 (lv_at hl 0 rfl) ?_
                  refine lv_istore (lv' := [(4, .int v6_48), (6, .int v6_48), (5, .int v5_48), (3, .ref (ad (61 + vk.toNatClampNeg))), (2, .int 0), (0, .ref (ad 0)), (1, .int vk)]) hx hb dX11_lend_147 hl (by decide) rfl (fun ls hl => ?_)
                  refine lv_aload_n hx hb dX11_lend_149 rfl (lv_at hl 5 rfl) ?_
                  refine va_get (D := (dC, dI)) (ci := 11) (v := .ref (ad 32)) (C := RX11) (T := TX11) (N := 11) hx hb hts inG11 hown hK hP 0 (gX_0 cs ad xi18) rfl 6 (by decide) (hts _ (List.mem_cons_of_mem _ mw_2_164)) (fun _ h9 => h9) rfl dX11_lend_150 ?_
                  refine va_get (D := (dC, dI)) (ci := 5) (v := .ref (ad 55)) (C := RX5) (T := TX5) (N := 15) hx hb hts inG5 hown hK hP 32 (gX_32 cs ad xi18) rfl 3 (by decide) (hts _ (List.mem_cons_of_mem _ mw_2_50)) (fun _ h9 => h9) rfl dX11_lend_153 ?_
                  refine va_get (D := (dC, dI)) (ci := 0) (v := .int (xi18 55 2)) (C := RX0) (T := TX0) (N := 4) hx hb hts inG0 hown hK hP 55 (gX_55 cs ad xi18) rfl 2 (by decide) (hts _ (List.mem_cons_of_mem _ mw_2_33)) (fun _ h9 => h9) rfl dX11_lend_156 ?_
                  refine lv_topi (fun y24 ey24 => ?_)
                  have by24 : y24.toInt = (xi18 55 2).toInt := congrArg Int32.toInt ey24
                  refine lv_istore (lv' := [(5, .int y24), (4, .int v6_48), (6, .int v6_48), (3, .ref (ad (61 + vk.toNatClampNeg))), (2, .int 0), (0, .ref (ad 0)), (1, .int vk)]) hx hb dX11_lend_159 hl (by decide) rfl (fun ls hl => ?_)
                  refine lv_iinc (v := (v6_48 + 1)) (lv' := [(6, .int (v6_48 + 1)), (5, .int y24), (4, .int v6_48), (3, .ref (ad (61 + vk.toNatClampNeg))), (2, .int 0), (0, .ref (ad 0)), (1, .int vk)]) hx hb dX11_lend_161 hl (k := 2) rfl rfl (by decide) rfl (fun ls hl => ?_)
                  refine loc_gen (P := fun w9 => lv_has ls 7 [(6, .int w9), (5, .int y24), (4, .int v6_48), (3, .ref (ad (61 + vk.toNatClampNeg))), (2, .int 0), (0, .ref (ad 0)), (1, .int vk)]) (v6_48 + 1) hl (fun w25 hw25 hl => ?_)
                  have hl : lv_has ls 7 [(6, .int w25), (5, .int y24), (4, .int v6_48), (3, .ref (ad (61 + vk.toNatClampNeg))), (2, .int 0), (0, .ref (ad 0)), (1, .int vk)] := hl
                  have aw25 : w25.toInt = v6_48.toInt + 1 := by rw [← hw25]; exact tI_add (rfl : v6_48.toInt = _) (rfl : (1 : Int32).toInt = 1) (by omega) (by omega)
                  refine lv_goto (tgt := 48) hx hb dX11_lend_164 (by decide) ?_
                  exact ih48 (v6_48) (y24) (w25) xi18 _ _ _ (by omega) (by exact ⟨by omega, by omega⟩)  ok hP  kp19 hS (lv_sub hl [0, 1, 2, 3, 4, 5, 6] rfl)
                · have c_23 : ¬ v4_48.toInt = -9 := il_ne c_23
                  refine lv_aload_n hx hb dX11_lend_130 rfl (lv_at hl 5 rfl) ?_
                  refine va_get (D := (dC, dI)) (ci := 11) (v := .ref (ad 32)) (C := RX11) (T := TX11) (N := 11) hx hb hts inG11 hown hK hP 0 (gX_0 cs ad xi18) rfl 6 (by decide) (hts _ (List.mem_cons_of_mem _ mw_2_164)) (fun _ h9 => h9) rfl dX11_lend_131 ?_
                  refine va_get (D := (dC, dI)) (ci := 5) (v := .ref (ad 55)) (C := RX5) (T := TX5) (N := 15) hx hb hts inG5 hown hK hP 32 (gX_32 cs ad xi18) rfl 3 (by decide) (hts _ (List.mem_cons_of_mem _ mw_2_50)) (fun _ h9 => h9) rfl dX11_lend_134 ?_
                  refine va_get (D := (dC, dI)) (ci := 0) (v := .int (xi18 55 2)) (C := RX0) (T := TX0) (N := 4) hx hb hts inG0 hown hK hP 55 (gX_55 cs ad xi18) rfl 2 (by decide) (hts _ (List.mem_cons_of_mem _ mw_2_33)) (fun _ h9 => h9) rfl dX11_lend_137 ?_
                  refine lv_topi (fun y26 ey26 => ?_)
                  have by26 : y26.toInt = (xi18 55 2).toInt := congrArg Int32.toInt ey26
                  refine lv_iload hx hb dX11_lend_140 (lv_at hl 1 rfl) ?_
                  refine lv_icmp_ge (tgt := 161) hx hb dX11_lend_142 (by decide) (fun c_27 => ?_) (fun c_27 => ?_)
                  · have c_27 : v5_48.toInt ≤ y26.toInt := il_le c_27
                    refine lv_iinc (v := (v6_48 + 1)) (lv' := [(6, .int (v6_48 + 1)), (5, .int v5_48), (4, .int v4_48), (3, .ref (ad (61 + vk.toNatClampNeg))), (2, .int 0), (0, .ref (ad 0)), (1, .int vk)]) hx hb dX11_lend_161 hl (k := 0) rfl rfl (by decide) rfl (fun ls hl => ?_)
                    refine loc_gen (P := fun w9 => lv_has ls 7 [(6, .int w9), (5, .int v5_48), (4, .int v4_48), (3, .ref (ad (61 + vk.toNatClampNeg))), (2, .int 0), (0, .ref (ad 0)), (1, .int vk)]) (v6_48 + 1) hl (fun w28 hw28 hl => ?_)
                    have hl : lv_has ls 7 [(6, .int w28), (5, .int v5_48), (4, .int v4_48), (3, .ref (ad (61 + vk.toNatClampNeg))), (2, .int 0), (0, .ref (ad 0)), (1, .int vk)] := hl
                    have aw28 : w28.toInt = v6_48.toInt + 1 := by rw [← hw28]; exact tI_add (rfl : v6_48.toInt = _) (rfl : (1 : Int32).toInt = 1) (by omega) (by omega)
                    refine lv_goto (tgt := 48) hx hb dX11_lend_164 (by decide) ?_
                    exact ih48 (v4_48) (v5_48) (w28) xi18 _ _ _ (by omega) (by exact ⟨by omega, by omega⟩)  ok hP  kp19 hS (lv_sub hl [0, 1, 2, 3, 4, 5, 6] rfl)
                  · have c_27 : y26.toInt < v5_48.toInt := il_nle c_27
                    refine lv_iload hx hb dX11_lend_145 (lv_at hl 0 rfl) ?_
                    refine lv_istore (lv' := [(4, .int v6_48), (6, .int v6_48), (5, .int v5_48), (3, .ref (ad (61 + vk.toNatClampNeg))), (2, .int 0), (0, .ref (ad 0)), (1, .int vk)]) hx hb dX11_lend_147 hl (by decide) rfl (fun ls hl => ?_)
                    refine lv_aload_n hx hb dX11_lend_149 rfl (lv_at hl 5 rfl) ?_
                    refine va_get (D := (dC, dI)) (ci := 11) (v := .ref (ad 32)) (C := RX11) (T := TX11) (N := 11) hx hb hts inG11 hown hK hP 0 (gX_0 cs ad xi18) rfl 6 (by decide) (hts _ (List.mem_cons_of_mem _ mw_2_164)) (fun _ h9 => h9) rfl dX11_lend_150 ?_
                    refine va_get (D := (dC, dI)) (ci := 5) (v := .ref (ad 55)) (C := RX5) (T := TX5) (N := 15) hx hb hts inG5 hown hK hP 32 (gX_32 cs ad xi18) rfl 3 (by decide) (hts _ (List.mem_cons_of_mem _ mw_2_50)) (fun _ h9 => h9) rfl dX11_lend_153 ?_
                    refine va_get (D := (dC, dI)) (ci := 0) (v := .int (xi18 55 2)) (C := RX0) (T := TX0) (N := 4) hx hb hts inG0 hown hK hP 55 (gX_55 cs ad xi18) rfl 2 (by decide) (hts _ (List.mem_cons_of_mem _ mw_2_33)) (fun _ h9 => h9) rfl dX11_lend_156 ?_
                    refine lq_i y26 ey26.symm ?_
                    refine lv_istore (lv' := [(5, .int y26), (4, .int v6_48), (6, .int v6_48), (3, .ref (ad (61 + vk.toNatClampNeg))), (2, .int 0), (0, .ref (ad 0)), (1, .int vk)]) hx hb dX11_lend_159 hl (by decide) rfl (fun ls hl => ?_)
                    refine lv_iinc (v := (v6_48 + 1)) (lv' := [(6, .int (v6_48 + 1)), (5, .int y26), (4, .int v6_48), (3, .ref (ad (61 + vk.toNatClampNeg))), (2, .int 0), (0, .ref (ad 0)), (1, .int vk)]) hx hb dX11_lend_161 hl (k := 2) rfl rfl (by decide) rfl (fun ls hl => ?_)
                    refine loc_gen (P := fun w9 => lv_has ls 7 [(6, .int w9), (5, .int y26), (4, .int v6_48), (3, .ref (ad (61 + vk.toNatClampNeg))), (2, .int 0), (0, .ref (ad 0)), (1, .int vk)]) (v6_48 + 1) hl (fun w29 hw29 hl => ?_)
                    have hl : lv_has ls 7 [(6, .int w29), (5, .int y26), (4, .int v6_48), (3, .ref (ad (61 + vk.toNatClampNeg))), (2, .int 0), (0, .ref (ad 0)), (1, .int vk)] := hl
                    have aw29 : w29.toInt = v6_48.toInt + 1 := by rw [← hw29]; exact tI_add (rfl : v6_48.toInt = _) (rfl : (1 : Int32).toInt = 1) (by omega) (by omega)
                    refine lv_goto (tgt := 48) hx hb dX11_lend_164 (by decide) ?_
                    exact ih48 (v6_48) (y26) (w29) xi18 _ _ _ (by omega) (by exact ⟨by omega, by omega⟩)  ok hP  kp19 hS (lv_sub hl [0, 1, 2, 3, 4, 5, 6] rfl)
            · have c_17 : y16.toInt = 3 := il_eq c_17
              refine lv_iload hx hb dX11_lend_83 (lv_at hl 0 rfl) ?_
              refine lv_aload_n hx hb dX11_lend_85 rfl (lv_at hl 3 rfl) ?_
              refine va_get (D := (dC, dI)) (ci := 3) (v := .int (nu48_ (61 + vk.toNatClampNeg) 1)) (C := RX3) (T := TX3) (N := 10) hx hb hts inG3 hown hK hP (61 + vk.toNatClampNeg) (gX_letter cs ad nu48_ (61 + vk.toNatClampNeg) hk3.1 hk3.2) rfl 1 (by decide) (hts _ (List.mem_cons_of_mem _ mw_1_56)) (fun _ h9 => h9) rfl dX11_lend_86 ?_
              refine lv_topi (fun y30 ey30 => ?_)
              have by30 : y30.toInt = (nu48_ (61 + vk.toNatClampNeg) 1).toInt := congrArg Int32.toInt ey30
              have gy30 : 0 ≤ y30.toInt ∧ y30.toInt ≤ 6 := by rw [ey30]; exact rX_letter_1 ok (61 + vk.toNatClampNeg) hk3.1 hk3.2
              refine lv_icmp_eq (tgt := 95) hx hb dX11_lend_89 (by decide) (fun c_31 => ?_) (fun c_31 => ?_)
              · have c_31 : v6_48.toInt = y30.toInt := il_eq c_31
                refine lv_aload_n hx hb dX11_lend_95 rfl (lv_at hl 5 rfl) ?_
                refine va_get (D := (dC, dI)) (ci := 11) (v := .ref (ad 32)) (C := RX11) (T := TX11) (N := 11) hx hb hts inG11 hown hK hP 0 (gX_0 cs ad nu48_) rfl 6 (by decide) (hts _ (List.mem_cons_of_mem _ mw_2_164)) (fun _ h9 => h9) rfl dX11_lend_96 ?_
                refine lv_aload_n hx hb dX11_lend_99 rfl (lv_at hl 5 rfl) ?_
                refine va_get (D := (dC, dI)) (ci := 11) (v := .ref (ad 4)) (C := RX11) (T := TX11) (N := 11) hx hb hts inG11 hown hK hP 0 (gX_0 cs ad nu48_) rfl 3 (by decide) (hts _ (List.mem_cons_of_mem _ mw_2_161)) (fun _ h9 => h9) rfl dX11_lend_100 ?_
                refine lv_iload hx hb dX11_lend_103 (lv_at hl 0 rfl) ?_
                refine lv_bipush (v := 99) hx hb dX11_lend_105 (by decide) ?_
                have hFc := fr_all (wR_D nu48_ hD) hS hA
                refine va_callv (va_runV (As := [.ref (ad 4), .int v6_48, .int 99]) (rest := []) ⟨hx, hb, hml, hown, hts⟩ (sx_walkWithLoan l dC dI cs ad nu48_ ok H hP ((wR_D nu48_ hD).weaken (fun _ _ _ _ => trivial)) v6_48 99 (by have h52 : (99 : Int32).toInt = 99 := rfl; omega)) (cwV 3 hts (wU_V mw_4_89 mw_4_86 mw_4_87 mw_4_88 mw_1_8) rfl rfl rfl (by decide +kernel) ⟨Nat.le_of_ble_eq_true rfl, Nat.le_of_ble_eq_true rfl⟩) ⟨sz_c, va_recv hK hP (ci := 5) (q0 := 32) rfl (gX_32 cs ad nu48_), sz_m hK hz⟩ rfl rfl hl.1 rfl (lv_room (Nat.le_of_ble_eq_true rfl)) dX11_lend_107 ⟨Nat.zero_le _, Nat.zero_le _⟩) hS (fun q _ h => hFc q h) hFc (fun xi32 t H32 locs ht hvm hw32 hB hz1 hk1 hS => ?_)
                have hP : va_P (dC, dI) vwCl (wR 157 ad (EX cs ad) xi32) H32 := by rw [← ht]; exact hB
                obtain ⟨ok, hw32, hkp32_0⟩ := hw32
                have kp33 : (∀ k f : Nat, Nat.testBit 510 (gpX k f) = true → xi32 k f = mu k f) := kp_t hkp32_0 (by decide) kq48_0
                refine lv_aload_n hx hb dX11_lend_110 rfl (lv_at hl 5 rfl) ?_
                refine va_get (D := (dC, dI)) (ci := 11) (v := .ref (ad 32)) (C := RX11) (T := TX11) (N := 11) hx hb hts inG11 hown hK hP 0 (gX_0 cs ad xi32) rfl 6 (by decide) (hts _ (List.mem_cons_of_mem _ mw_2_164)) (fun _ h9 => h9) rfl dX11_lend_111 ?_
                refine va_get (D := (dC, dI)) (ci := 5) (v := .ref (ad 55)) (C := RX5) (T := TX5) (N := 15) hx hb hts inG5 hown hK hP 32 (gX_32 cs ad xi32) rfl 3 (by decide) (hts _ (List.mem_cons_of_mem _ mw_2_50)) (fun _ h9 => h9) rfl dX11_lend_114 ?_
                refine va_get (D := (dC, dI)) (ci := 0) (v := .int (xi32 55 3)) (C := RX0) (T := TX0) (N := 4) hx hb hts inG0 hown hK hP 55 (gX_55 cs ad xi32) rfl 3 (by decide) (hts _ (List.mem_cons_of_mem _ mw_2_36)) (fun _ h9 => h9) rfl dX11_lend_117 ?_
                refine lv_topi (fun y34 ey34 => ?_)
                have by34 : y34.toInt = (xi32 55 3).toInt := congrArg Int32.toInt ey34
                have gy34 : 0 ≤ y34.toInt ∧ y34.toInt ≤ 1 := by rw [ey34]; exact rX_55_3 ok
                refine lv_if_eq (tgt := 161) hx hb dX11_lend_120 (by decide) (fun c_35 => ?_) (fun c_35 => ?_)
                · have c_35 : y34.toInt = 0 := il_eq c_35
                  refine lv_iinc (v := (v6_48 + 1)) (lv' := [(6, .int (v6_48 + 1)), (5, .int v5_48), (4, .int v4_48), (3, .ref (ad (61 + vk.toNatClampNeg))), (2, .int 0), (0, .ref (ad 0)), (1, .int vk)]) hx hb dX11_lend_161 hl (k := 0) rfl rfl (by decide) rfl (fun ls hl => ?_)
                  refine loc_gen (P := fun w9 => lv_has ls 7 [(6, .int w9), (5, .int v5_48), (4, .int v4_48), (3, .ref (ad (61 + vk.toNatClampNeg))), (2, .int 0), (0, .ref (ad 0)), (1, .int vk)]) (v6_48 + 1) hl (fun w36 hw36 hl => ?_)
                  have hl : lv_has ls 7 [(6, .int w36), (5, .int v5_48), (4, .int v4_48), (3, .ref (ad (61 + vk.toNatClampNeg))), (2, .int 0), (0, .ref (ad 0)), (1, .int vk)] := hl
                  have aw36 : w36.toInt = v6_48.toInt + 1 := by rw [← hw36]; exact tI_add (rfl : v6_48.toInt = _) (rfl : (1 : Int32).toInt = 1) (by omega) (by omega)
                  refine lv_goto (tgt := 48) hx hb dX11_lend_164 (by decide) ?_
                  exact ih48 (v4_48) (v5_48) (w36) xi32 _ _ _ (by omega) (by exact ⟨by omega, by omega⟩)  ok hP  kp33 hS (lv_sub hl [0, 1, 2, 3, 4, 5, 6] rfl)
                · have c_35 : ¬ y34.toInt = 0 := il_ne c_35
                  refine lv_iload hx hb dX11_lend_123 (lv_at hl 2 rfl) ?_
                  refine lv_bipush (v := (-9)) hx hb dX11_lend_125 (by decide) ?_
                  refine lv_icmp_eq (tgt := 145) hx hb dX11_lend_127 (by decide) (fun c_37 => ?_) (fun c_37 => ?_)
                  · have c_37 : v4_48.toInt = -9 := il_eq c_37
                    refine lv_iload hx hb dX11_lend_145 (lv_at hl 0 rfl) ?_
                    refine lv_istore (lv' := [(4, .int v6_48), (6, .int v6_48), (5, .int v5_48), (3, .ref (ad (61 + vk.toNatClampNeg))), (2, .int 0), (0, .ref (ad 0)), (1, .int vk)]) hx hb dX11_lend_147 hl (by decide) rfl (fun ls hl => ?_)
                    refine lv_aload_n hx hb dX11_lend_149 rfl (lv_at hl 5 rfl) ?_
                    refine va_get (D := (dC, dI)) (ci := 11) (v := .ref (ad 32)) (C := RX11) (T := TX11) (N := 11) hx hb hts inG11 hown hK hP 0 (gX_0 cs ad xi32) rfl 6 (by decide) (hts _ (List.mem_cons_of_mem _ mw_2_164)) (fun _ h9 => h9) rfl dX11_lend_150 ?_
                    refine va_get (D := (dC, dI)) (ci := 5) (v := .ref (ad 55)) (C := RX5) (T := TX5) (N := 15) hx hb hts inG5 hown hK hP 32 (gX_32 cs ad xi32) rfl 3 (by decide) (hts _ (List.mem_cons_of_mem _ mw_2_50)) (fun _ h9 => h9) rfl dX11_lend_153 ?_
                    refine va_get (D := (dC, dI)) (ci := 0) (v := .int (xi32 55 2)) (C := RX0) (T := TX0) (N := 4) hx hb hts inG0 hown hK hP 55 (gX_55 cs ad xi32) rfl 2 (by decide) (hts _ (List.mem_cons_of_mem _ mw_2_33)) (fun _ h9 => h9) rfl dX11_lend_156 ?_
                    refine lv_topi (fun y38 ey38 => ?_)
                    have by38 : y38.toInt = (xi32 55 2).toInt := congrArg Int32.toInt ey38
                    refine lv_istore (lv' := [(5, .int y38), (4, .int v6_48), (6, .int v6_48), (3, .ref (ad (61 + vk.toNatClampNeg))), (2, .int 0), (0, .ref (ad 0)), (1, .int vk)]) hx hb dX11_lend_159 hl (by decide) rfl (fun ls hl => ?_)
                    refine lv_iinc (v := (v6_48 + 1)) (lv' := [(6, .int (v6_48 + 1)), (5, .int y38), (4, .int v6_48), (3, .ref (ad (61 + vk.toNatClampNeg))), (2, .int 0), (0, .ref (ad 0)), (1, .int vk)]) hx hb dX11_lend_161 hl (k := 2) rfl rfl (by decide) rfl (fun ls hl => ?_)
                    refine loc_gen (P := fun w9 => lv_has ls 7 [(6, .int w9), (5, .int y38), (4, .int v6_48), (3, .ref (ad (61 + vk.toNatClampNeg))), (2, .int 0), (0, .ref (ad 0)), (1, .int vk)]) (v6_48 + 1) hl (fun w39 hw39 hl => ?_)
                    have hl : lv_has ls 7 [(6, .int w39), (5, .int y38), (4, .int v6_48), (3, .ref (ad (61 + vk.toNatClampNeg))), (2, .int 0), (0, .ref (ad 0)), (1, .int vk)] := hl
                    have aw39 : w39.toInt = v6_48.toInt + 1 := by rw [← hw39]; exact tI_add (rfl : v6_48.toInt = _) (rfl : (1 : Int32).toInt = 1) (by omega) (by omega)
                    refine lv_goto (tgt := 48) hx hb dX11_lend_164 (by decide) ?_
                    exact ih48 (v6_48) (y38) (w39) xi32 _ _ _ (by omega) (by exact ⟨by omega, by omega⟩)  ok hP  kp33 hS (lv_sub hl [0, 1, 2, 3, 4, 5, 6] rfl)
                  · have c_37 : ¬ v4_48.toInt = -9 := il_ne c_37
                    refine lv_aload_n hx hb dX11_lend_130 rfl (lv_at hl 5 rfl) ?_
                    refine va_get (D := (dC, dI)) (ci := 11) (v := .ref (ad 32)) (C := RX11) (T := TX11) (N := 11) hx hb hts inG11 hown hK hP 0 (gX_0 cs ad xi32) rfl 6 (by decide) (hts _ (List.mem_cons_of_mem _ mw_2_164)) (fun _ h9 => h9) rfl dX11_lend_131 ?_
                    refine va_get (D := (dC, dI)) (ci := 5) (v := .ref (ad 55)) (C := RX5) (T := TX5) (N := 15) hx hb hts inG5 hown hK hP 32 (gX_32 cs ad xi32) rfl 3 (by decide) (hts _ (List.mem_cons_of_mem _ mw_2_50)) (fun _ h9 => h9) rfl dX11_lend_134 ?_
                    refine va_get (D := (dC, dI)) (ci := 0) (v := .int (xi32 55 2)) (C := RX0) (T := TX0) (N := 4) hx hb hts inG0 hown hK hP 55 (gX_55 cs ad xi32) rfl 2 (by decide) (hts _ (List.mem_cons_of_mem _ mw_2_33)) (fun _ h9 => h9) rfl dX11_lend_137 ?_
                    refine lv_topi (fun y40 ey40 => ?_)
                    have by40 : y40.toInt = (xi32 55 2).toInt := congrArg Int32.toInt ey40
                    refine lv_iload hx hb dX11_lend_140 (lv_at hl 1 rfl) ?_
                    refine lv_icmp_ge (tgt := 161) hx hb dX11_lend_142 (by decide) (fun c_41 => ?_) (fun c_41 => ?_)
                    · have c_41 : v5_48.toInt ≤ y40.toInt := il_le c_41
                      refine lv_iinc (v := (v6_48 + 1)) (lv' := [(6, .int (v6_48 + 1)), (5, .int v5_48), (4, .int v4_48), (3, .ref (ad (61 + vk.toNatClampNeg))), (2, .int 0), (0, .ref (ad 0)), (1, .int vk)]) hx hb dX11_lend_161 hl (k := 0) rfl rfl (by decide) rfl (fun ls hl => ?_)
                      refine loc_gen (P := fun w9 => lv_has ls 7 [(6, .int w9), (5, .int v5_48), (4, .int v4_48), (3, .ref (ad (61 + vk.toNatClampNeg))), (2, .int 0), (0, .ref (ad 0)), (1, .int vk)]) (v6_48 + 1) hl (fun w42 hw42 hl => ?_)
                      have hl : lv_has ls 7 [(6, .int w42), (5, .int v5_48), (4, .int v4_48), (3, .ref (ad (61 + vk.toNatClampNeg))), (2, .int 0), (0, .ref (ad 0)), (1, .int vk)] := hl
                      have aw42 : w42.toInt = v6_48.toInt + 1 := by rw [← hw42]; exact tI_add (rfl : v6_48.toInt = _) (rfl : (1 : Int32).toInt = 1) (by omega) (by omega)
                      refine lv_goto (tgt := 48) hx hb dX11_lend_164 (by decide) ?_
                      exact ih48 (v4_48) (v5_48) (w42) xi32 _ _ _ (by omega) (by exact ⟨by omega, by omega⟩)  ok hP  kp33 hS (lv_sub hl [0, 1, 2, 3, 4, 5, 6] rfl)
                    · have c_41 : y40.toInt < v5_48.toInt := il_nle c_41
                      refine lv_iload hx hb dX11_lend_145 (lv_at hl 0 rfl) ?_
                      refine lv_istore (lv' := [(4, .int v6_48), (6, .int v6_48), (5, .int v5_48), (3, .ref (ad (61 + vk.toNatClampNeg))), (2, .int 0), (0, .ref (ad 0)), (1, .int vk)]) hx hb dX11_lend_147 hl (by decide) rfl (fun ls hl => ?_)
                      refine lv_aload_n hx hb dX11_lend_149 rfl (lv_at hl 5 rfl) ?_
                      refine va_get (D := (dC, dI)) (ci := 11) (v := .ref (ad 32)) (C := RX11) (T := TX11) (N := 11) hx hb hts inG11 hown hK hP 0 (gX_0 cs ad xi32) rfl 6 (by decide) (hts _ (List.mem_cons_of_mem _ mw_2_164)) (fun _ h9 => h9) rfl dX11_lend_150 ?_
                      refine va_get (D := (dC, dI)) (ci := 5) (v := .ref (ad 55)) (C := RX5) (T := TX5) (N := 15) hx hb hts inG5 hown hK hP 32 (gX_32 cs ad xi32) rfl 3 (by decide) (hts _ (List.mem_cons_of_mem _ mw_2_50)) (fun _ h9 => h9) rfl dX11_lend_153 ?_
                      refine va_get (D := (dC, dI)) (ci := 0) (v := .int (xi32 55 2)) (C := RX0) (T := TX0) (N := 4) hx hb hts inG0 hown hK hP 55 (gX_55 cs ad xi32) rfl 2 (by decide) (hts _ (List.mem_cons_of_mem _ mw_2_33)) (fun _ h9 => h9) rfl dX11_lend_156 ?_
                      refine lq_i y40 ey40.symm ?_
                      refine lv_istore (lv' := [(5, .int y40), (4, .int v6_48), (6, .int v6_48), (3, .ref (ad (61 + vk.toNatClampNeg))), (2, .int 0), (0, .ref (ad 0)), (1, .int vk)]) hx hb dX11_lend_159 hl (by decide) rfl (fun ls hl => ?_)
                      refine lv_iinc (v := (v6_48 + 1)) (lv' := [(6, .int (v6_48 + 1)), (5, .int y40), (4, .int v6_48), (3, .ref (ad (61 + vk.toNatClampNeg))), (2, .int 0), (0, .ref (ad 0)), (1, .int vk)]) hx hb dX11_lend_161 hl (k := 2) rfl rfl (by decide) rfl (fun ls hl => ?_)
                      refine loc_gen (P := fun w9 => lv_has ls 7 [(6, .int w9), (5, .int y40), (4, .int v6_48), (3, .ref (ad (61 + vk.toNatClampNeg))), (2, .int 0), (0, .ref (ad 0)), (1, .int vk)]) (v6_48 + 1) hl (fun w43 hw43 hl => ?_)
                      have hl : lv_has ls 7 [(6, .int w43), (5, .int y40), (4, .int v6_48), (3, .ref (ad (61 + vk.toNatClampNeg))), (2, .int 0), (0, .ref (ad 0)), (1, .int vk)] := hl
                      have aw43 : w43.toInt = v6_48.toInt + 1 := by rw [← hw43]; exact tI_add (rfl : v6_48.toInt = _) (rfl : (1 : Int32).toInt = 1) (by omega) (by omega)
                      refine lv_goto (tgt := 48) hx hb dX11_lend_164 (by decide) ?_
                      exact ih48 (v6_48) (y40) (w43) xi32 _ _ _ (by omega) (by exact ⟨by omega, by omega⟩)  ok hP  kp33 hS (lv_sub hl [0, 1, 2, 3, 4, 5, 6] rfl)
              · have c_31 : ¬ v6_48.toInt = y30.toInt := il_ne c_31
                refine lv_goto (tgt := 161) hx hb dX11_lend_92 (by decide) ?_
                refine lv_iinc (v := (v6_48 + 1)) (lv' := [(6, .int (v6_48 + 1)), (5, .int v5_48), (4, .int v4_48), (3, .ref (ad (61 + vk.toNatClampNeg))), (2, .int 0), (0, .ref (ad 0)), (1, .int vk)]) hx hb dX11_lend_161 hl (k := 0) rfl rfl (by decide) rfl (fun ls hl => ?_)
                refine loc_gen (P := fun w9 => lv_has ls 7 [(6, .int w9), (5, .int v5_48), (4, .int v4_48), (3, .ref (ad (61 + vk.toNatClampNeg))), (2, .int 0), (0, .ref (ad 0)), (1, .int vk)]) (v6_48 + 1) hl (fun w44 hw44 hl => ?_)
                have hl : lv_has ls 7 [(6, .int w44), (5, .int v5_48), (4, .int v4_48), (3, .ref (ad (61 + vk.toNatClampNeg))), (2, .int 0), (0, .ref (ad 0)), (1, .int vk)] := hl
                have aw44 : w44.toInt = v6_48.toInt + 1 := by rw [← hw44]; exact tI_add (rfl : v6_48.toInt = _) (rfl : (1 : Int32).toInt = 1) (by omega) (by omega)
                refine lv_goto (tgt := 48) hx hb dX11_lend_164 (by decide) ?_
                exact ih48 (v4_48) (v5_48) (w44) nu48_ _ _ _ (by omega) (by exact ⟨by omega, by omega⟩)  ok hP  kq48_0 hS (lv_sub hl [0, 1, 2, 3, 4, 5, 6] rfl)
    exact loop48 ((7 + 1 - (0 : Int32).toInt).toNat + 1) ((-9)) (0) (0) xi4 _ _ _ (Nat.lt_succ_self _) (by have h80 : (0 : Int32).toInt = 0 := rfl; exact ⟨by omega, by omega⟩)  ok hP  kp5 hS hl
  · have kp2 : (∀ k f : Nat, Nat.testBit 510 (gpX k f) = true → xi1 k f = mu k f) := kp_t hkp1_0 (by decide) (fun _ _ _ => rfl)
    skip
    refine lv_istore_n (lv' := [(2, .int r1), (0, .ref (ad 0)), (1, .int vk)]) hx hb dX11_lend_6 rfl hl (by decide) rfl (fun ls hl => ?_)
    refine lv_iload_n hx hb dX11_lend_7 rfl (lv_at hl 0 rfl) ?_
    refine lv_if_eq (tgt := 13) hx hb dX11_lend_8 (by decide) (fun c_45 => by have c_45 : r1.toInt = 0 := il_eq c_45; exfalso; omega) (fun c_45 => ?_)
    have c_45 : ¬ r1.toInt = 0 := il_ne c_45
    refine lv_iload_n hx hb dX11_lend_11 rfl (lv_at hl 0 rfl) ?_
    exact W.iret (v := r1) hx hb hr (fun t ht hW => ⟨⟨r1, xi1, rfl, ⟨ok, trivial, kp2⟩, by first | (subst ht; exact hP) | (rw [ht]; exact hP) | (show va_P (dC, dI) vwCl (wR 157 ad (EX cs ad) xi1) t.heap; rw [ht]; exact hP)⟩, hS.F ht⟩) hS.2.2 dX11_lend_12
