set_option maxHeartbeats 4000000 in
set_option maxRecDepth 100000 in
/-- sm_hadOn5 -/
theorem sm_hadOn5 (l : Launch) (dC : Nat → ClassId) (dI : Nat → Nat → Nat) (cs : Nat → ClassId) (ad : Nat → Nat) (mu : Nat → Nat → Int32) (ok : okR loM hiM mu) (H : Heap) (hP : va_P (dC, dI) vwCl (wR 21 ad (EM cs ad) mu) H) (hD0 : va_D (fun _ => True) (wR 21 ad (EM cs ad) mu)) (vr : Int32) (vh : Int32) (vp : Int32) (hin0 : 0 ≤ vr.toInt ∧ vr.toInt ≤ 5) (hin1 : 5 ≤ (mu 2 vr.toNatClampNeg).toInt + 1 ∧ (mu 2 vr.toNatClampNeg).toInt ≤ 6) : Met l yX12_hadOn (wU yX12_hadOn cX12_hadOn 10 none) ({ frames := 3, cells := 0, slots := 0, locals := 81 }) (va_Pc [.ref (ad 0), .int vr, .int 5, .int vh, .int vp] (sz_P (dC, dI) vwCl (tyM cs) H)) (va_Qv (fun (xi : Nat → Nat → Int32) => okR loM hiM xi ∧ (True) ∧ (∀ k : Nat, 2 ≤ k → k < 3 → xi k = mu k) ∧ (∀ k f : Nat, Nat.testBit 510 (gpM k f) = true → xi k f = mu k f)) (fun xi t => va_P (dC, dI) vwCl (wR 21 ad (EM cs ad) xi) t.heap) (va_A (wR 21 ad (EM cs ad) mu) H.size)) 0 0 (va_A (wR 21 ad (EM cs ad) mu) H.size) := by
  refine Met.ofW (cc := cX12_hadOn) (maxL := 10) (ret := none) (by decide) rfl ?_
  intro p e s m args below meth c s₁ B hml hv
  obtain ⟨rfl, hh, hK, hz⟩ := hv
  have hx := B.exec
  have hb := B.bytes
  have hr := B.returns
  have hts := atoms_spec (ws := (wU yX12_hadOn cX12_hadOn 10 none)) B.pre
  have hown : s.vm.findClass RX12 = some m.cls := findClass_of_methodNamed B.named
  have hlocks := B.notSynchronized
  subst hh
  have hD := hD0.self (sz := s.heap.size)
  have hA : ∀ q : Nat, s.heap.size ≤ q → (va_A (wR 21 ad (EM cs ad) mu) s.heap.size) q := fun q h => Or.inr h
  have hS : va_S (va_A (wR 21 ad (EM cs ad) mu) s.heap.size) s.heap s.heap [] := va_S.rf
  have hl := lv_entry ([.ref (ad 0), .int vr, .int 5, .int vh, .int vp]) (n := 10) (Nat.le_of_ble_eq_true rfl)
  rw [lg_entry_eq]
  generalize (lg_sl ([.ref (ad 0), .int vr, .int 5, .int vh, .int vp]) ++ List.replicate (10 - (lg_sl ([.ref (ad 0), .int vr, .int 5, .int vh, .int vp])).length) Slot.unset).toArray = ls at hl ⊢
  have hl : lv_has ls 10 [(0, .ref (ad 0)), (1, .int vr), (2, .int 5), (3, .int vh), (4, .int vp)] := hl
  refine lv_iload_n hx hb dX12_hadOn_0 rfl (lv_at hl 2 rfl) ?_
  refine lv_aload_n hx hb dX12_hadOn_1 rfl (lv_at hl 0 rfl) ?_
  refine va_get (D := (dC, dI)) (ci := 12) (v := .ref (ad 2)) (C := RX12) (T := TX12) (N := 46) hx hb hts inG12 hown hK hP 0 (gM_0 cs ad mu) rfl 3 (by decide) (hts _ (List.mem_cons_of_mem _ mw_5_44)) (fun _ h9 => h9) rfl dX12_hadOn_2 ?_
  refine lv_iload_n hx hb dX12_hadOn_5 rfl (lv_at hl 1 rfl) ?_
  refine va_iald hx hb hK hP 2 0 (gM_2 cs ad mu) rfl (show vp_in vr 6 from vi_of (by omega) (by omega)) dX12_hadOn_6 ?_
  refine lv_topi (fun y1 ey1 => ?_)
  have by1 : y1.toInt = (mu 2 vr.toNatClampNeg).toInt := congrArg Int32.toInt ey1
  have gy1 : -9 ≤ y1.toInt ∧ y1.toInt ≤ 40 := by rw [ey1]; exact rM_2_s ok vr.toNatClampNeg
  refine lv_iconst (v := 1) hx hb dX12_hadOn_7 (by decide) ?_
  refine lv_iadd hx hb dX12_hadOn_8 ?_
  refine lv_topi (fun t2 et2 => ?_)
  have at2 : t2.toInt = y1.toInt + 1 := by rw [et2]; exact tI_add (rfl : y1.toInt = _) (rfl : (1 : Int32).toInt = 1) (by omega) (by omega)
  refine lv_icmp_ne (tgt := 68) hx hb dX12_hadOn_9 (by decide) (fun c_3 => ?_) (fun c_3 => ?_)
  · have c_3 : ¬ 5 = t2.toInt := il_ne c_3
    refine lv_aload_n hx hb dX12_hadOn_68 rfl (lv_at hl 0 rfl) ?_
    refine va_get (D := (dC, dI)) (ci := 12) (v := .ref (ad 16)) (C := RX12) (T := TX12) (N := 46) hx hb hts inG12 hown hK hP 0 (gM_0 cs ad mu) rfl 26 (by decide) (hts _ (List.mem_cons_of_mem _ mw_5_67)) (fun _ h9 => h9) rfl dX12_hadOn_69 ?_
    refine lv_iload_n hx hb dX12_hadOn_72 rfl (lv_at hl 2 rfl) ?_
    refine lv_iconst (v := 1) hx hb dX12_hadOn_73 (by decide) ?_
    refine lv_isub hx hb dX12_hadOn_74 ?_
    refine lq_i 4 (by decide) ?_
    refine va_iald hx hb hK hP 16 0 (gM_16 cs ad mu) rfl (show vp_in 4 7 from (by unfold vp_in; decide)) dX12_hadOn_75 ?_
    refine lv_topi (fun y4 ey4 => ?_)
    have by4 : y4.toInt = (mu 16 (4 : Int32).toNatClampNeg).toInt := congrArg Int32.toInt ey4
    have gy4 : 0 ≤ y4.toInt ∧ y4.toInt ≤ 6 := by rw [ey4]; exact rM_16_s ok (4 : Int32).toNatClampNeg
    refine lv_istore (lv' := [(5, .int y4), (0, .ref (ad 0)), (1, .int vr), (2, .int 5), (3, .int vh), (4, .int vp)]) hx hb dX12_hadOn_76 hl (by decide) rfl (fun ls hl => ?_)
    refine lv_aload_n hx hb dX12_hadOn_78 rfl (lv_at hl 1 rfl) ?_
    refine lv_iload hx hb dX12_hadOn_79 (lv_at hl 0 rfl) ?_
    refine lv_iload hx hb dX12_hadOn_81 (lv_at hl 5 rfl) ?_
    refine cr_i (va_runV (As := [.int y4, .int vp]) (rest := []) ⟨hx, hb, hml, hown, hts⟩ (sm_asksOf l dC dI cs ad mu ok s.heap hP y4 vp (by omega)) (cwV 2 hts (wU_V mw_6_74 mw_6_71 mw_6_73 mw_0_42 mw_1_13) rfl rfl rfl (by decide +kernel) ⟨Nat.le_of_ble_eq_true rfl, Nat.le_of_ble_eq_true rfl⟩) ⟨sz_c, va_recv hK hP (ci := 12) (q0 := 0) rfl (gM_0 cs ad mu), sz_m hK hz⟩ rfl rfl hl.1 rfl (lv_room (Nat.le_of_ble_eq_true rfl)) dX12_hadOn_83 ⟨Nat.zero_le _, Nat.zero_le _⟩) hS (fun r5 hw5 locs hS => ?_)
    obtain ⟨hfe5, hw5⟩ := hw5
    refine lv_istore (lv' := [(6, .int r5), (5, .int y4), (0, .ref (ad 0)), (1, .int vr), (2, .int 5), (3, .int vh), (4, .int vp)]) hx hb dX12_hadOn_86 hl (by decide) rfl (fun ls hl => ?_)
    refine lv_iload hx hb dX12_hadOn_88 (lv_at hl 0 rfl) ?_
    refine lv_aload_n hx hb dX12_hadOn_90 rfl (lv_at hl 2 rfl) ?_
    refine lv_iload_n hx hb dX12_hadOn_91 rfl (lv_at hl 3 rfl) ?_
    refine lv_iload_n hx hb dX12_hadOn_92 rfl (lv_at hl 4 rfl) ?_
    refine lv_iconst (v := 1) hx hb dX12_hadOn_93 (by decide) ?_
    refine lv_isub hx hb dX12_hadOn_94 ?_
    refine lq_i 4 (by decide) ?_
    refine cr_i (va_runV (As := [.int vr, .int 4]) (rest := [.int r5]) ⟨hx, hb, hml, hown, hts⟩ (sm_rowAt l dC dI cs ad mu ok s.heap hP vr 4 (by have h51 : (4 : Int32).toInt = 4 := rfl; omega)) (cwV 2 hts (wU_V mw_5_209 mw_5_206 mw_5_208 mw_0_29 mw_1_13) rfl rfl rfl (by decide +kernel) ⟨Nat.le_of_ble_eq_true rfl, Nat.le_of_ble_eq_true rfl⟩) ⟨sz_c, va_recv hK hP (ci := 12) (q0 := 0) rfl (gM_0 cs ad mu), sz_m hK hz⟩ rfl rfl hl.1 rfl (lv_room (Nat.le_of_ble_eq_true rfl)) dX12_hadOn_95 ⟨Nat.zero_le _, Nat.zero_le _⟩) hS (fun r6 hw6 locs hS => ?_)
    refine lv_icmp_ne (tgt := 121) hx hb dX12_hadOn_98 (by decide) (fun c_7 => ?_) (fun c_7 => ?_)
    · have c_7 : ¬ r5.toInt = r6.toInt := il_ne c_7
      refine lv_iconst (v := 0) hx hb dX12_hadOn_121 (by decide) ?_
      refine lv_istore (lv' := [(7, .int 0), (6, .int r5), (5, .int y4), (0, .ref (ad 0)), (1, .int vr), (2, .int 5), (3, .int vh), (4, .int vp)]) hx hb dX12_hadOn_122 hl (by decide) rfl (fun ls hl => ?_)
      refine lv_iload hx hb dX12_hadOn_124 (lv_at hl 0 rfl) ?_
      refine lv_if_eq (tgt := 142) hx hb dX12_hadOn_126 (by decide) (fun _ => ?_) (fun c => absurd (by decide) c)
      refine lv_iconst (v := 0) hx hb dX12_hadOn_142 (by decide) ?_
      refine lv_istore (lv' := [(8, .int 0), (7, .int 0), (6, .int r5), (5, .int y4), (0, .ref (ad 0)), (1, .int vr), (2, .int 5), (3, .int vh), (4, .int vp)]) hx hb dX12_hadOn_143 hl (by decide) rfl (fun ls hl => ?_)
      refine lv_iconst (v := 0) hx hb dX12_hadOn_145 (by decide) ?_
      refine lv_istore (lv' := [(9, .int 0), (8, .int 0), (7, .int 0), (6, .int r5), (5, .int y4), (0, .ref (ad 0)), (1, .int vr), (2, .int 5), (3, .int vh), (4, .int vp)]) hx hb dX12_hadOn_146 hl (by decide) rfl (fun ls hl => ?_)
      have loop148 : ∀ (n148 : Nat) (v9_148 : Int32) (nu148_ : Nat → Nat → Int32) (H : Heap) (locs : List Loc) (ls : Array Slot), (7 + 1 - v9_148.toInt).toNat < n148 → (0 ≤ v9_148.toInt ∧ v9_148.toInt ≤ 7) → okR loM hiM nu148_ → va_P (dC, dI) vwCl (wR 21 ad (EM cs ad) nu148_) H → y1 = nu148_ 2 vr.toNatClampNeg → (∀ k : Nat, 2 ≤ k → k < 3 → nu148_ k = mu k) → (∀ k f : Nat, Nat.testBit 510 (gpM k f) = true → nu148_ k f = mu k f) → va_S (va_A (wR 21 ad (EM cs ad) mu) s.heap.size) s.heap H locs → lv_has ls 10 [(9, .int v9_148), (8, .int 0), (7, .int 0), (6, .int r5), (5, .int y4), (0, .ref (ad 0)), (1, .int vr), (2, .int 5), (3, .int vh), (4, .int vp)] → W p l e (headSpec (wU yX12_hadOn cX12_hadOn 10 none) ({ frames := 3, cells := 0, slots := 0, locals := 81 })).room s m ([.ref (ad 0), .int vr, .int 5, .int vh, .int vp] : List Value).toArray below meth c H locs 0 0 (MQ below (va_Qv (fun (xi : Nat → Nat → Int32) => okR loM hiM xi ∧ (True) ∧ (∀ k : Nat, 2 ≤ k → k < 3 → xi k = mu k) ∧ (∀ k f : Nat, Nat.testBit 510 (gpM k f) = true → xi k f = mu k f)) (fun xi t => va_P (dC, dI) vwCl (wR 21 ad (EM cs ad) xi) t.heap) (va_A (wR 21 ad (EM cs ad) mu) s.heap.size)) ([.ref (ad 0), .int vr, .int 5, .int vh, .int vp] : List Value).toArray s 0 0 (va_A (wR 21 ad (EM cs ad) mu) s.heap.size)) (F0 m 148 ls []) := by
        intro n148
        induction n148 with
        | zero => intro v9_148 nu148_ H locs ls hm; exact absurd hm (Nat.not_lt_zero _)
        | succ n148 ih148 =>
          intro v9_148 nu148_ H locs ls hm h_v9_148 ok hP ek148_0 kq148_0 kq148_1 hS hl
          refine lv_iload hx hb dX12_hadOn_148 (lv_at hl 0 rfl) ?_
          refine lv_aload_n hx hb dX12_hadOn_150 rfl (lv_at hl 5 rfl) ?_
          refine va_get (D := (dC, dI)) (ci := 12) (v := .int (nu148_ 0 8)) (C := RX12) (T := TX12) (N := 46) hx hb hts inG12 hown hK hP 0 (gM_0 cs ad nu148_) rfl 8 (by decide) (hts _ (List.mem_cons_of_mem _ mw_5_49)) (fun _ h9 => h9) rfl dX12_hadOn_151 ?_
          refine lv_topi (fun y8 ey8 => ?_)
          have by8 : y8.toInt = (nu148_ 0 8).toInt := congrArg Int32.toInt ey8
          have gy8 : 0 ≤ y8.toInt ∧ y8.toInt ≤ 7 := by rw [ey8]; exact rM_0_8 ok
          refine lv_icmp_ge (tgt := 197) hx hb dX12_hadOn_154 (by decide) (fun c_9 => ?_) (fun c_9 => ?_)
          · have c_9 : y8.toInt ≤ v9_148.toInt := il_le c_9
            exact W.vret hx hb hr (fun t ht hW => ⟨⟨nu148_, rfl, ⟨ok, trivial, kq148_0, kq148_1⟩, by first | (subst ht; exact hP) | (rw [ht]; exact hP) | (show va_P (dC, dI) vwCl (wR 21 ad (EM cs ad) nu148_) t.heap; rw [ht]; exact hP)⟩, hS.F ht⟩) hS.2.2 dX12_hadOn_197
          · have c_9 : v9_148.toInt < y8.toInt := il_nle c_9
            refine lv_iload hx hb dX12_hadOn_157 (lv_at hl 1 rfl) ?_
            refine lv_iload hx hb dX12_hadOn_159 (lv_at hl 0 rfl) ?_
            refine cr_i (va_runS (As := [.int 0, .int v9_148]) (rest := []) ⟨hx, hb, hml, hown, hts⟩ (sm_has l dC dI (tyM cs) H 0 v9_148) (va_cwS 2 hts (wU_S mw_6_59 mw_6_57 mw_6_58 mw_1_13) rfl rfl rfl (by decide +kernel) ⟨Nat.le_of_ble_eq_true rfl, Nat.le_of_ble_eq_true rfl⟩) ⟨sz_c, sz_m hK hz⟩ rfl rfl hl.1 rfl (lv_room (Nat.le_of_ble_eq_true rfl)) dX12_hadOn_161 ⟨Nat.zero_le _, Nat.zero_le _⟩) hS (fun r10 hw10 locs hS => ?_)
            obtain ⟨hfe10, hw10⟩ := hw10
            rcases hw10 with ⟨rfl, f10⟩ | ⟨rfl, f10⟩
            · have f10 : rb (0 : Int32) v9_148 = 1 := f10
              refine lv_if_eq (tgt := 191) hx hb dX12_hadOn_164 (by decide) (fun c => absurd c (by decide)) (fun _ => ?_)
              refine lv_aload_n hx hb dX12_hadOn_167 rfl (lv_at hl 5 rfl) ?_
              refine va_get (D := (dC, dI)) (ci := 12) (v := .ref (ad 16)) (C := RX12) (T := TX12) (N := 46) hx hb hts inG12 hown hK hP 0 (gM_0 cs ad nu148_) rfl 26 (by decide) (hts _ (List.mem_cons_of_mem _ mw_5_67)) (fun _ h9 => h9) rfl dX12_hadOn_168 ?_
              refine lv_iload_n hx hb dX12_hadOn_171 rfl (lv_at hl 7 rfl) ?_
              refine lv_iload hx hb dX12_hadOn_172 (lv_at hl 0 rfl) ?_
              refine va_iast hx hb hK hP (wR_D nu148_ hD) hS 16 0 (gM_16 cs ad nu148_) rfl (show vp_in 5 7 from (by unfold vp_in; decide)) dX12_hadOn_174 (fun H locs hP _ hS => ?_)
              refine wr_gen (upd (nu148_ 16) (5 : Int32).toNatClampNeg v9_148) hP (rfl) (fun nu11 hn11 hP => ?_)
              have ok := tM_16_s ok (5 : Int32).toNatClampNeg hn11 (by exact ⟨by omega, by omega⟩)
              have ez12 : y1 = nu11 2 vr.toNatClampNeg := ek148_0.trans (congrFun (up_k hn11 (by decide)) vr.toNatClampNeg).symm
              have ez13 : y8 = nu11 0 8 := ey8.trans (congrFun (up_k hn11 (by decide)) 8).symm
              have kp14 : ∀ k : Nat, 2 ≤ k → k < 3 → nu11 k = mu k := fun k h1 h2 => (up_k hn11 (ne_hi (by decide) h2).symm).trans (kq148_0 k h1 h2)
              have kp15 : (∀ k f : Nat, Nat.testBit 510 (gpM k f) = true → nu11 k f = mu k f) := kp_c 0 hn11 (fun _ => rfl) (by decide) kq148_1
              refine lv_aload_n hx hb dX12_hadOn_175 rfl (lv_at hl 5 rfl) ?_
              refine lv_iload_n hx hb dX12_hadOn_176 rfl (lv_at hl 6 rfl) ?_
              refine lv_iload_n hx hb dX12_hadOn_177 rfl (lv_at hl 7 rfl) ?_
              refine lv_iconst (v := 1) hx hb dX12_hadOn_178 (by decide) ?_
              refine lv_iadd hx hb dX12_hadOn_179 ?_
              refine lq_i 6 (by decide) ?_
              refine lv_iload_n hx hb dX12_hadOn_180 rfl (lv_at hl 8 rfl) ?_
              refine lv_iconst (v := 1) hx hb dX12_hadOn_181 (by decide) ?_
              refine lv_iload hx hb dX12_hadOn_182 (lv_at hl 0 rfl) ?_
              refine lv_ishl hx hb dX12_hadOn_184 ?_
              refine lv_topi (fun t16 et16 => ?_)
              refine lv_ior hx hb dX12_hadOn_185 ?_
              refine lv_topi (fun t17 et17 => ?_)
              refine lv_iload hx hb dX12_hadOn_186 (lv_at hl 3 rfl) ?_
              have hFc := fr_all (wR_D nu11 hD) hS hA
              refine va_callv (va_runV (As := [.int vr, .int 6, .int t17, .int r5]) (rest := []) ⟨hx, hb, hml, hown, hts⟩ (sm_hadOn6 l dC dI cs ad nu11 ok H hP ((wR_D nu11 hD).weaken (fun _ _ _ _ => trivial)) vr t17 r5 (by have h51 : (6 : Int32).toInt = 6 := rfl; omega) (by have h51 : (6 : Int32).toInt = 6 := rfl; have hb18 := congrArg Int32.toInt ez12; omega)) (cwV 4 hts (wU_V mw_7_24 mw_7_21 mw_7_23 mw_0_62 mw_1_13) rfl rfl rfl (by decide +kernel) ⟨Nat.le_of_ble_eq_true rfl, Nat.le_of_ble_eq_true rfl⟩) ⟨sz_c, va_recv hK hP (ci := 12) (q0 := 0) rfl (gM_0 cs ad nu11), sz_m hK hz⟩ rfl rfl hl.1 rfl (lv_room (Nat.le_of_ble_eq_true rfl)) dX12_hadOn_188 ⟨Nat.zero_le _, Nat.zero_le _⟩) hS (fun q _ h => hFc q h) hFc (fun xi19 t H19 locs ht hvm hw19 hB hz1 hk1 hS => ?_)
              have hP : va_P (dC, dI) vwCl (wR 21 ad (EM cs ad) xi19) H19 := by rw [← ht]; exact hB
              obtain ⟨ok, hw19, hkp19_0, hkp19_1⟩ := hw19
              have ez20 : y1 = xi19 2 vr.toNatClampNeg := ez12.trans (congrFun (hkp19_0 2 (by decide) (by decide)) vr.toNatClampNeg).symm
              have kp21 : ∀ k : Nat, 2 ≤ k → k < 3 → xi19 k = mu k := fun k h1 h2 => (hkp19_0 k (Nat.le_trans (by decide) h1) (Nat.lt_of_lt_of_le h2 (by decide))).trans (kp14 k h1 h2)
              have kp22 : (∀ k f : Nat, Nat.testBit 510 (gpM k f) = true → xi19 k f = mu k f) := kp_t hkp19_1 (by decide) kp15
              refine lv_iinc (v := (v9_148 + 1)) (lv' := [(9, .int (v9_148 + 1)), (8, .int 0), (7, .int 0), (6, .int r5), (5, .int y4), (0, .ref (ad 0)), (1, .int vr), (2, .int 5), (3, .int vh), (4, .int vp)]) hx hb dX12_hadOn_191 hl (k := 0) rfl rfl (by decide) rfl (fun ls hl => ?_)
              refine loc_gen (P := fun w9 => lv_has ls 10 [(9, .int w9), (8, .int 0), (7, .int 0), (6, .int r5), (5, .int y4), (0, .ref (ad 0)), (1, .int vr), (2, .int 5), (3, .int vh), (4, .int vp)]) (v9_148 + 1) hl (fun w23 hw23 hl => ?_)
              have hl : lv_has ls 10 [(9, .int w23), (8, .int 0), (7, .int 0), (6, .int r5), (5, .int y4), (0, .ref (ad 0)), (1, .int vr), (2, .int 5), (3, .int vh), (4, .int vp)] := hl
              have aw23 : w23.toInt = v9_148.toInt + 1 := by rw [← hw23]; exact tI_add (rfl : v9_148.toInt = _) (rfl : (1 : Int32).toInt = 1) (by omega) (by omega)
              refine lv_goto (tgt := 148) hx hb dX12_hadOn_194 (by decide) ?_
              exact ih148 (w23) xi19 _ _ _ (by omega) (by exact ⟨by omega, by omega⟩)  ok hP ez20 kp21 kp22 hS (lv_sub hl [0, 1, 2, 3, 4, 5, 6, 7, 8, 9] rfl)
            · have f10 : ¬ rb (0 : Int32) v9_148 = 1 := f10
              refine lv_if_eq (tgt := 191) hx hb dX12_hadOn_164 (by decide) (fun _ => ?_) (fun c => absurd (by decide) c)
              refine lv_iinc (v := (v9_148 + 1)) (lv' := [(9, .int (v9_148 + 1)), (8, .int 0), (7, .int 0), (6, .int r5), (5, .int y4), (0, .ref (ad 0)), (1, .int vr), (2, .int 5), (3, .int vh), (4, .int vp)]) hx hb dX12_hadOn_191 hl (k := 0) rfl rfl (by decide) rfl (fun ls hl => ?_)
              refine loc_gen (P := fun w9 => lv_has ls 10 [(9, .int w9), (8, .int 0), (7, .int 0), (6, .int r5), (5, .int y4), (0, .ref (ad 0)), (1, .int vr), (2, .int 5), (3, .int vh), (4, .int vp)]) (v9_148 + 1) hl (fun w24 hw24 hl => ?_)
              have hl : lv_has ls 10 [(9, .int w24), (8, .int 0), (7, .int 0), (6, .int r5), (5, .int y4), (0, .ref (ad 0)), (1, .int vr), (2, .int 5), (3, .int vh), (4, .int vp)] := hl
              have aw24 : w24.toInt = v9_148.toInt + 1 := by rw [← hw24]; exact tI_add (rfl : v9_148.toInt = _) (rfl : (1 : Int32).toInt = 1) (by omega) (by omega)
              refine lv_goto (tgt := 148) hx hb dX12_hadOn_194 (by decide) ?_
              exact ih148 (w24) nu148_ _ _ _ (by omega) (by exact ⟨by omega, by omega⟩)  ok hP ek148_0 kq148_0 kq148_1 hS (lv_sub hl [0, 1, 2, 3, 4, 5, 6, 7, 8, 9] rfl)
      exact loop148 ((7 + 1 - (0 : Int32).toInt).toNat + 1) (0) mu _ _ _ (Nat.lt_succ_self _) (by have h80 : (0 : Int32).toInt = 0 := rfl; exact ⟨by omega, by omega⟩)  ok hP ey1 (fun _ _ _ => rfl) (fun _ _ _ => rfl) hS hl
    · have c_7 : r5.toInt = r6.toInt := il_eq c_7
      refine lv_iload_n hx hb dX12_hadOn_101 rfl (lv_at hl 4 rfl) ?_
      refine lv_iconst (v := 1) hx hb dX12_hadOn_102 (by decide) ?_
      refine lv_icmp_eq (tgt := 117) hx hb dX12_hadOn_103 (by decide) (fun c => absurd c (by decide)) (fun _ => ?_)
      refine lv_aload_n hx hb dX12_hadOn_106 rfl (lv_at hl 2 rfl) ?_
      refine va_get (D := (dC, dI)) (ci := 12) (v := .ref (ad 7)) (C := RX12) (T := TX12) (N := 46) hx hb hts inG12 hown hK hP 0 (gM_0 cs ad mu) rfl 9 (by decide) (hts _ (List.mem_cons_of_mem _ mw_5_50)) (fun _ h9 => h9) rfl dX12_hadOn_107 ?_
      refine lv_iload hx hb dX12_hadOn_110 (lv_at hl 1 rfl) ?_
      refine va_iald hx hb hK hP 7 0 (gM_7 cs ad mu) rfl (show vp_in y4 7 from vi_of (by omega) (by omega)) dX12_hadOn_112 ?_
      refine lv_topi (fun y25 ey25 => ?_)
      have by25 : y25.toInt = (mu 7 y4.toNatClampNeg).toInt := congrArg Int32.toInt ey25
      refine lv_iconst (v := 3) hx hb dX12_hadOn_113 (by decide) ?_
      refine lv_icmp_eq (tgt := 121) hx hb dX12_hadOn_114 (by decide) (fun c_26 => ?_) (fun c_26 => ?_)
      · have c_26 : y25.toInt = 3 := il_eq c_26
        refine lv_iconst (v := 0) hx hb dX12_hadOn_121 (by decide) ?_
        refine lv_istore (lv' := [(7, .int 0), (6, .int r5), (5, .int y4), (0, .ref (ad 0)), (1, .int vr), (2, .int 5), (3, .int vh), (4, .int vp)]) hx hb dX12_hadOn_122 hl (by decide) rfl (fun ls hl => ?_)
        refine lv_iload hx hb dX12_hadOn_124 (lv_at hl 0 rfl) ?_
        refine lv_if_eq (tgt := 142) hx hb dX12_hadOn_126 (by decide) (fun _ => ?_) (fun c => absurd (by decide) c)
        refine lv_iconst (v := 0) hx hb dX12_hadOn_142 (by decide) ?_
        refine lv_istore (lv' := [(8, .int 0), (7, .int 0), (6, .int r5), (5, .int y4), (0, .ref (ad 0)), (1, .int vr), (2, .int 5), (3, .int vh), (4, .int vp)]) hx hb dX12_hadOn_143 hl (by decide) rfl (fun ls hl => ?_)
        refine lv_iconst (v := 0) hx hb dX12_hadOn_145 (by decide) ?_
        refine lv_istore (lv' := [(9, .int 0), (8, .int 0), (7, .int 0), (6, .int r5), (5, .int y4), (0, .ref (ad 0)), (1, .int vr), (2, .int 5), (3, .int vh), (4, .int vp)]) hx hb dX12_hadOn_146 hl (by decide) rfl (fun ls hl => ?_)
        have loop148 : ∀ (n148 : Nat) (v9_148 : Int32) (nu148_ : Nat → Nat → Int32) (H : Heap) (locs : List Loc) (ls : Array Slot), (7 + 1 - v9_148.toInt).toNat < n148 → (0 ≤ v9_148.toInt ∧ v9_148.toInt ≤ 7) → okR loM hiM nu148_ → va_P (dC, dI) vwCl (wR 21 ad (EM cs ad) nu148_) H → y1 = nu148_ 2 vr.toNatClampNeg → (∀ k : Nat, 2 ≤ k → k < 3 → nu148_ k = mu k) → (∀ k f : Nat, Nat.testBit 510 (gpM k f) = true → nu148_ k f = mu k f) → va_S (va_A (wR 21 ad (EM cs ad) mu) s.heap.size) s.heap H locs → lv_has ls 10 [(9, .int v9_148), (8, .int 0), (7, .int 0), (6, .int r5), (5, .int y4), (0, .ref (ad 0)), (1, .int vr), (2, .int 5), (3, .int vh), (4, .int vp)] → W p l e (headSpec (wU yX12_hadOn cX12_hadOn 10 none) ({ frames := 3, cells := 0, slots := 0, locals := 81 })).room s m ([.ref (ad 0), .int vr, .int 5, .int vh, .int vp] : List Value).toArray below meth c H locs 0 0 (MQ below (va_Qv (fun (xi : Nat → Nat → Int32) => okR loM hiM xi ∧ (True) ∧ (∀ k : Nat, 2 ≤ k → k < 3 → xi k = mu k) ∧ (∀ k f : Nat, Nat.testBit 510 (gpM k f) = true → xi k f = mu k f)) (fun xi t => va_P (dC, dI) vwCl (wR 21 ad (EM cs ad) xi) t.heap) (va_A (wR 21 ad (EM cs ad) mu) s.heap.size)) ([.ref (ad 0), .int vr, .int 5, .int vh, .int vp] : List Value).toArray s 0 0 (va_A (wR 21 ad (EM cs ad) mu) s.heap.size)) (F0 m 148 ls []) := by
          intro n148
          induction n148 with
          | zero => intro v9_148 nu148_ H locs ls hm; exact absurd hm (Nat.not_lt_zero _)
          | succ n148 ih148 =>
            intro v9_148 nu148_ H locs ls hm h_v9_148 ok hP ek148_0 kq148_0 kq148_1 hS hl
            refine lv_iload hx hb dX12_hadOn_148 (lv_at hl 0 rfl) ?_
            refine lv_aload_n hx hb dX12_hadOn_150 rfl (lv_at hl 5 rfl) ?_
            refine va_get (D := (dC, dI)) (ci := 12) (v := .int (nu148_ 0 8)) (C := RX12) (T := TX12) (N := 46) hx hb hts inG12 hown hK hP 0 (gM_0 cs ad nu148_) rfl 8 (by decide) (hts _ (List.mem_cons_of_mem _ mw_5_49)) (fun _ h9 => h9) rfl dX12_hadOn_151 ?_
            refine lv_topi (fun y27 ey27 => ?_)
            have by27 : y27.toInt = (nu148_ 0 8).toInt := congrArg Int32.toInt ey27
            have gy27 : 0 ≤ y27.toInt ∧ y27.toInt ≤ 7 := by rw [ey27]; exact rM_0_8 ok
            refine lv_icmp_ge (tgt := 197) hx hb dX12_hadOn_154 (by decide) (fun c_28 => ?_) (fun c_28 => ?_)
            · have c_28 : y27.toInt ≤ v9_148.toInt := il_le c_28
              exact W.vret hx hb hr (fun t ht hW => ⟨⟨nu148_, rfl, ⟨ok, trivial, kq148_0, kq148_1⟩, by first | (subst ht; exact hP) | (rw [ht]; exact hP) | (show va_P (dC, dI) vwCl (wR 21 ad (EM cs ad) nu148_) t.heap; rw [ht]; exact hP)⟩, hS.F ht⟩) hS.2.2 dX12_hadOn_197
            · have c_28 : v9_148.toInt < y27.toInt := il_nle c_28
              refine lv_iload hx hb dX12_hadOn_157 (lv_at hl 1 rfl) ?_
              refine lv_iload hx hb dX12_hadOn_159 (lv_at hl 0 rfl) ?_
              refine cr_i (va_runS (As := [.int 0, .int v9_148]) (rest := []) ⟨hx, hb, hml, hown, hts⟩ (sm_has l dC dI (tyM cs) H 0 v9_148) (va_cwS 2 hts (wU_S mw_6_59 mw_6_57 mw_6_58 mw_1_13) rfl rfl rfl (by decide +kernel) ⟨Nat.le_of_ble_eq_true rfl, Nat.le_of_ble_eq_true rfl⟩) ⟨sz_c, sz_m hK hz⟩ rfl rfl hl.1 rfl (lv_room (Nat.le_of_ble_eq_true rfl)) dX12_hadOn_161 ⟨Nat.zero_le _, Nat.zero_le _⟩) hS (fun r29 hw29 locs hS => ?_)
              obtain ⟨hfe29, hw29⟩ := hw29
              rcases hw29 with ⟨rfl, f29⟩ | ⟨rfl, f29⟩
              · have f29 : rb (0 : Int32) v9_148 = 1 := f29
                refine lv_if_eq (tgt := 191) hx hb dX12_hadOn_164 (by decide) (fun c => absurd c (by decide)) (fun _ => ?_)
                refine lv_aload_n hx hb dX12_hadOn_167 rfl (lv_at hl 5 rfl) ?_
                refine va_get (D := (dC, dI)) (ci := 12) (v := .ref (ad 16)) (C := RX12) (T := TX12) (N := 46) hx hb hts inG12 hown hK hP 0 (gM_0 cs ad nu148_) rfl 26 (by decide) (hts _ (List.mem_cons_of_mem _ mw_5_67)) (fun _ h9 => h9) rfl dX12_hadOn_168 ?_
                refine lv_iload_n hx hb dX12_hadOn_171 rfl (lv_at hl 7 rfl) ?_
                refine lv_iload hx hb dX12_hadOn_172 (lv_at hl 0 rfl) ?_
                refine va_iast hx hb hK hP (wR_D nu148_ hD) hS 16 0 (gM_16 cs ad nu148_) rfl (show vp_in 5 7 from (by unfold vp_in; decide)) dX12_hadOn_174 (fun H locs hP _ hS => ?_)
                refine wr_gen (upd (nu148_ 16) (5 : Int32).toNatClampNeg v9_148) hP (rfl) (fun nu30 hn30 hP => ?_)
                have ok := tM_16_s ok (5 : Int32).toNatClampNeg hn30 (by exact ⟨by omega, by omega⟩)
                have ez31 : y1 = nu30 2 vr.toNatClampNeg := ek148_0.trans (congrFun (up_k hn30 (by decide)) vr.toNatClampNeg).symm
                have ez32 : y27 = nu30 0 8 := ey27.trans (congrFun (up_k hn30 (by decide)) 8).symm
                have kp33 : ∀ k : Nat, 2 ≤ k → k < 3 → nu30 k = mu k := fun k h1 h2 => (up_k hn30 (ne_hi (by decide) h2).symm).trans (kq148_0 k h1 h2)
                have kp34 : (∀ k f : Nat, Nat.testBit 510 (gpM k f) = true → nu30 k f = mu k f) := kp_c 0 hn30 (fun _ => rfl) (by decide) kq148_1
                refine lv_aload_n hx hb dX12_hadOn_175 rfl (lv_at hl 5 rfl) ?_
                refine lv_iload_n hx hb dX12_hadOn_176 rfl (lv_at hl 6 rfl) ?_
                refine lv_iload_n hx hb dX12_hadOn_177 rfl (lv_at hl 7 rfl) ?_
                refine lv_iconst (v := 1) hx hb dX12_hadOn_178 (by decide) ?_
                refine lv_iadd hx hb dX12_hadOn_179 ?_
                refine lq_i 6 (by decide) ?_
                refine lv_iload_n hx hb dX12_hadOn_180 rfl (lv_at hl 8 rfl) ?_
                refine lv_iconst (v := 1) hx hb dX12_hadOn_181 (by decide) ?_
                refine lv_iload hx hb dX12_hadOn_182 (lv_at hl 0 rfl) ?_
                refine lv_ishl hx hb dX12_hadOn_184 ?_
                refine lv_topi (fun t35 et35 => ?_)
                refine lv_ior hx hb dX12_hadOn_185 ?_
                refine lv_topi (fun t36 et36 => ?_)
                refine lv_iload hx hb dX12_hadOn_186 (lv_at hl 3 rfl) ?_
                have hFc := fr_all (wR_D nu30 hD) hS hA
                refine va_callv (va_runV (As := [.int vr, .int 6, .int t36, .int r5]) (rest := []) ⟨hx, hb, hml, hown, hts⟩ (sm_hadOn6 l dC dI cs ad nu30 ok H hP ((wR_D nu30 hD).weaken (fun _ _ _ _ => trivial)) vr t36 r5 (by have h51 : (6 : Int32).toInt = 6 := rfl; omega) (by have h51 : (6 : Int32).toInt = 6 := rfl; have hb37 := congrArg Int32.toInt ez31; omega)) (cwV 4 hts (wU_V mw_7_24 mw_7_21 mw_7_23 mw_0_62 mw_1_13) rfl rfl rfl (by decide +kernel) ⟨Nat.le_of_ble_eq_true rfl, Nat.le_of_ble_eq_true rfl⟩) ⟨sz_c, va_recv hK hP (ci := 12) (q0 := 0) rfl (gM_0 cs ad nu30), sz_m hK hz⟩ rfl rfl hl.1 rfl (lv_room (Nat.le_of_ble_eq_true rfl)) dX12_hadOn_188 ⟨Nat.zero_le _, Nat.zero_le _⟩) hS (fun q _ h => hFc q h) hFc (fun xi38 t H38 locs ht hvm hw38 hB hz1 hk1 hS => ?_)
                have hP : va_P (dC, dI) vwCl (wR 21 ad (EM cs ad) xi38) H38 := by rw [← ht]; exact hB
                obtain ⟨ok, hw38, hkp38_0, hkp38_1⟩ := hw38
                have ez39 : y1 = xi38 2 vr.toNatClampNeg := ez31.trans (congrFun (hkp38_0 2 (by decide) (by decide)) vr.toNatClampNeg).symm
                have kp40 : ∀ k : Nat, 2 ≤ k → k < 3 → xi38 k = mu k := fun k h1 h2 => (hkp38_0 k (Nat.le_trans (by decide) h1) (Nat.lt_of_lt_of_le h2 (by decide))).trans (kp33 k h1 h2)
                have kp41 : (∀ k f : Nat, Nat.testBit 510 (gpM k f) = true → xi38 k f = mu k f) := kp_t hkp38_1 (by decide) kp34
                refine lv_iinc (v := (v9_148 + 1)) (lv' := [(9, .int (v9_148 + 1)), (8, .int 0), (7, .int 0), (6, .int r5), (5, .int y4), (0, .ref (ad 0)), (1, .int vr), (2, .int 5), (3, .int vh), (4, .int vp)]) hx hb dX12_hadOn_191 hl (k := 0) rfl rfl (by decide) rfl (fun ls hl => ?_)
                refine loc_gen (P := fun w9 => lv_has ls 10 [(9, .int w9), (8, .int 0), (7, .int 0), (6, .int r5), (5, .int y4), (0, .ref (ad 0)), (1, .int vr), (2, .int 5), (3, .int vh), (4, .int vp)]) (v9_148 + 1) hl (fun w42 hw42 hl => ?_)
                have hl : lv_has ls 10 [(9, .int w42), (8, .int 0), (7, .int 0), (6, .int r5), (5, .int y4), (0, .ref (ad 0)), (1, .int vr), (2, .int 5), (3, .int vh), (4, .int vp)] := hl
                have aw42 : w42.toInt = v9_148.toInt + 1 := by rw [← hw42]; exact tI_add (rfl : v9_148.toInt = _) (rfl : (1 : Int32).toInt = 1) (by omega) (by omega)
                refine lv_goto (tgt := 148) hx hb dX12_hadOn_194 (by decide) ?_
                exact ih148 (w42) xi38 _ _ _ (by omega) (by exact ⟨by omega, by omega⟩)  ok hP ez39 kp40 kp41 hS (lv_sub hl [0, 1, 2, 3, 4, 5, 6, 7, 8, 9] rfl)
              · have f29 : ¬ rb (0 : Int32) v9_148 = 1 := f29
                refine lv_if_eq (tgt := 191) hx hb dX12_hadOn_164 (by decide) (fun _ => ?_) (fun c => absurd (by decide) c)
                refine lv_iinc (v := (v9_148 + 1)) (lv' := [(9, .int (v9_148 + 1)), (8, .int 0), (7, .int 0), (6, .int r5), (5, .int y4), (0, .ref (ad 0)), (1, .int vr), (2, .int 5), (3, .int vh), (4, .int vp)]) hx hb dX12_hadOn_191 hl (k := 0) rfl rfl (by decide) rfl (fun ls hl => ?_)
                refine loc_gen (P := fun w9 => lv_has ls 10 [(9, .int w9), (8, .int 0), (7, .int 0), (6, .int r5), (5, .int y4), (0, .ref (ad 0)), (1, .int vr), (2, .int 5), (3, .int vh), (4, .int vp)]) (v9_148 + 1) hl (fun w43 hw43 hl => ?_)
                have hl : lv_has ls 10 [(9, .int w43), (8, .int 0), (7, .int 0), (6, .int r5), (5, .int y4), (0, .ref (ad 0)), (1, .int vr), (2, .int 5), (3, .int vh), (4, .int vp)] := hl
                have aw43 : w43.toInt = v9_148.toInt + 1 := by rw [← hw43]; exact tI_add (rfl : v9_148.toInt = _) (rfl : (1 : Int32).toInt = 1) (by omega) (by omega)
                refine lv_goto (tgt := 148) hx hb dX12_hadOn_194 (by decide) ?_
                exact ih148 (w43) nu148_ _ _ _ (by omega) (by exact ⟨by omega, by omega⟩)  ok hP ek148_0 kq148_0 kq148_1 hS (lv_sub hl [0, 1, 2, 3, 4, 5, 6, 7, 8, 9] rfl)
        exact loop148 ((7 + 1 - (0 : Int32).toInt).toNat + 1) (0) mu _ _ _ (Nat.lt_succ_self _) (by have h80 : (0 : Int32).toInt = 0 := rfl; exact ⟨by omega, by omega⟩)  ok hP ey1 (fun _ _ _ => rfl) (fun _ _ _ => rfl) hS hl
      · have c_26 : ¬ y25.toInt = 3 := il_ne c_26
        refine lv_iconst (v := 1) hx hb dX12_hadOn_117 (by decide) ?_
        refine lv_goto (tgt := 122) hx hb dX12_hadOn_118 (by decide) ?_
        refine lv_istore (lv' := [(7, .int 1), (6, .int r5), (5, .int y4), (0, .ref (ad 0)), (1, .int vr), (2, .int 5), (3, .int vh), (4, .int vp)]) hx hb dX12_hadOn_122 hl (by decide) rfl (fun ls hl => ?_)
        refine lv_iload hx hb dX12_hadOn_124 (lv_at hl 0 rfl) ?_
        refine lv_if_eq (tgt := 142) hx hb dX12_hadOn_126 (by decide) (fun c => absurd c (by decide)) (fun _ => ?_)
        refine lv_aload_n hx hb dX12_hadOn_129 rfl (lv_at hl 3 rfl) ?_
        refine lv_iload hx hb dX12_hadOn_130 (lv_at hl 2 rfl) ?_
        refine cr_i (va_runV (As := [.int y4]) (rest := []) ⟨hx, hb, hml, hown, hts⟩ (sm_besideOf l dC dI cs ad mu ok s.heap hP y4) (cwV 1 hts (wU_V mw_6_56 mw_6_53 mw_6_55 mw_0_40 mw_1_13) rfl rfl rfl (by decide +kernel) ⟨Nat.le_of_ble_eq_true rfl, Nat.le_of_ble_eq_true rfl⟩) ⟨sz_c, va_recv hK hP (ci := 12) (q0 := 0) rfl (gM_0 cs ad mu), sz_m hK hz⟩ rfl rfl hl.1 rfl (lv_room (Nat.le_of_ble_eq_true rfl)) dX12_hadOn_132 ⟨Nat.zero_le _, Nat.zero_le _⟩) hS (fun r44 hw44 locs hS => ?_)
        obtain ⟨hfe44, hw44⟩ := hw44
        refine lv_iload_n hx hb dX12_hadOn_135 rfl (lv_at hl 6 rfl) ?_
        refine lv_iconst (v := (-1)) hx hb dX12_hadOn_136 (by decide) ?_
        refine lv_ixor hx hb dX12_hadOn_137 ?_
        refine lv_topi (fun t45 et45 => ?_)
        refine lv_iand hx hb dX12_hadOn_138 ?_
        refine lv_topi (fun t46 et46 => ?_)
        refine lv_goto (tgt := 143) hx hb dX12_hadOn_139 (by decide) ?_
        refine lv_istore (lv' := [(8, .int t46), (7, .int 1), (6, .int r5), (5, .int y4), (0, .ref (ad 0)), (1, .int vr), (2, .int 5), (3, .int vh), (4, .int vp)]) hx hb dX12_hadOn_143 hl (by decide) rfl (fun ls hl => ?_)
        refine lv_iconst (v := 0) hx hb dX12_hadOn_145 (by decide) ?_
        refine lv_istore (lv' := [(9, .int 0), (8, .int t46), (7, .int 1), (6, .int r5), (5, .int y4), (0, .ref (ad 0)), (1, .int vr), (2, .int 5), (3, .int vh), (4, .int vp)]) hx hb dX12_hadOn_146 hl (by decide) rfl (fun ls hl => ?_)
        have loop148 : ∀ (n148 : Nat) (v9_148 : Int32) (nu148_ : Nat → Nat → Int32) (H : Heap) (locs : List Loc) (ls : Array Slot), (7 + 1 - v9_148.toInt).toNat < n148 → (0 ≤ v9_148.toInt ∧ v9_148.toInt ≤ 7) → okR loM hiM nu148_ → va_P (dC, dI) vwCl (wR 21 ad (EM cs ad) nu148_) H → y1 = nu148_ 2 vr.toNatClampNeg → (∀ k : Nat, 2 ≤ k → k < 3 → nu148_ k = mu k) → (∀ k f : Nat, Nat.testBit 510 (gpM k f) = true → nu148_ k f = mu k f) → va_S (va_A (wR 21 ad (EM cs ad) mu) s.heap.size) s.heap H locs → lv_has ls 10 [(9, .int v9_148), (8, .int t46), (7, .int 1), (6, .int r5), (5, .int y4), (0, .ref (ad 0)), (1, .int vr), (2, .int 5), (3, .int vh), (4, .int vp)] → W p l e (headSpec (wU yX12_hadOn cX12_hadOn 10 none) ({ frames := 3, cells := 0, slots := 0, locals := 81 })).room s m ([.ref (ad 0), .int vr, .int 5, .int vh, .int vp] : List Value).toArray below meth c H locs 0 0 (MQ below (va_Qv (fun (xi : Nat → Nat → Int32) => okR loM hiM xi ∧ (True) ∧ (∀ k : Nat, 2 ≤ k → k < 3 → xi k = mu k) ∧ (∀ k f : Nat, Nat.testBit 510 (gpM k f) = true → xi k f = mu k f)) (fun xi t => va_P (dC, dI) vwCl (wR 21 ad (EM cs ad) xi) t.heap) (va_A (wR 21 ad (EM cs ad) mu) s.heap.size)) ([.ref (ad 0), .int vr, .int 5, .int vh, .int vp] : List Value).toArray s 0 0 (va_A (wR 21 ad (EM cs ad) mu) s.heap.size)) (F0 m 148 ls []) := by
          intro n148
          induction n148 with
          | zero => intro v9_148 nu148_ H locs ls hm; exact absurd hm (Nat.not_lt_zero _)
          | succ n148 ih148 =>
            intro v9_148 nu148_ H locs ls hm h_v9_148 ok hP ek148_0 kq148_0 kq148_1 hS hl
            refine lv_iload hx hb dX12_hadOn_148 (lv_at hl 0 rfl) ?_
            refine lv_aload_n hx hb dX12_hadOn_150 rfl (lv_at hl 5 rfl) ?_
            refine va_get (D := (dC, dI)) (ci := 12) (v := .int (nu148_ 0 8)) (C := RX12) (T := TX12) (N := 46) hx hb hts inG12 hown hK hP 0 (gM_0 cs ad nu148_) rfl 8 (by decide) (hts _ (List.mem_cons_of_mem _ mw_5_49)) (fun _ h9 => h9) rfl dX12_hadOn_151 ?_
            refine lv_topi (fun y47 ey47 => ?_)
            have by47 : y47.toInt = (nu148_ 0 8).toInt := congrArg Int32.toInt ey47
            have gy47 : 0 ≤ y47.toInt ∧ y47.toInt ≤ 7 := by rw [ey47]; exact rM_0_8 ok
            refine lv_icmp_ge (tgt := 197) hx hb dX12_hadOn_154 (by decide) (fun c_48 => ?_) (fun c_48 => ?_)
            · have c_48 : y47.toInt ≤ v9_148.toInt := il_le c_48
              exact W.vret hx hb hr (fun t ht hW => ⟨⟨nu148_, rfl, ⟨ok, trivial, kq148_0, kq148_1⟩, by first | (subst ht; exact hP) | (rw [ht]; exact hP) | (show va_P (dC, dI) vwCl (wR 21 ad (EM cs ad) nu148_) t.heap; rw [ht]; exact hP)⟩, hS.F ht⟩) hS.2.2 dX12_hadOn_197
            · have c_48 : v9_148.toInt < y47.toInt := il_nle c_48
              refine lv_iload hx hb dX12_hadOn_157 (lv_at hl 1 rfl) ?_
              refine lv_iload hx hb dX12_hadOn_159 (lv_at hl 0 rfl) ?_
              refine cr_i (va_runS (As := [.int t46, .int v9_148]) (rest := []) ⟨hx, hb, hml, hown, hts⟩ (sm_has l dC dI (tyM cs) H t46 v9_148) (va_cwS 2 hts (wU_S mw_6_59 mw_6_57 mw_6_58 mw_1_13) rfl rfl rfl (by decide +kernel) ⟨Nat.le_of_ble_eq_true rfl, Nat.le_of_ble_eq_true rfl⟩) ⟨sz_c, sz_m hK hz⟩ rfl rfl hl.1 rfl (lv_room (Nat.le_of_ble_eq_true rfl)) dX12_hadOn_161 ⟨Nat.zero_le _, Nat.zero_le _⟩) hS (fun r49 hw49 locs hS => ?_)
              obtain ⟨hfe49, hw49⟩ := hw49
              rcases hw49 with ⟨rfl, f49⟩ | ⟨rfl, f49⟩
              · have f49 : rb t46 v9_148 = 1 := f49
                refine lv_if_eq (tgt := 191) hx hb dX12_hadOn_164 (by decide) (fun c => absurd c (by decide)) (fun _ => ?_)
                refine lv_aload_n hx hb dX12_hadOn_167 rfl (lv_at hl 5 rfl) ?_
                refine va_get (D := (dC, dI)) (ci := 12) (v := .ref (ad 16)) (C := RX12) (T := TX12) (N := 46) hx hb hts inG12 hown hK hP 0 (gM_0 cs ad nu148_) rfl 26 (by decide) (hts _ (List.mem_cons_of_mem _ mw_5_67)) (fun _ h9 => h9) rfl dX12_hadOn_168 ?_
                refine lv_iload_n hx hb dX12_hadOn_171 rfl (lv_at hl 7 rfl) ?_
                refine lv_iload hx hb dX12_hadOn_172 (lv_at hl 0 rfl) ?_
                refine va_iast hx hb hK hP (wR_D nu148_ hD) hS 16 0 (gM_16 cs ad nu148_) rfl (show vp_in 5 7 from (by unfold vp_in; decide)) dX12_hadOn_174 (fun H locs hP _ hS => ?_)
                refine wr_gen (upd (nu148_ 16) (5 : Int32).toNatClampNeg v9_148) hP (rfl) (fun nu50 hn50 hP => ?_)
                have ok := tM_16_s ok (5 : Int32).toNatClampNeg hn50 (by exact ⟨by omega, by omega⟩)
                have ez51 : y1 = nu50 2 vr.toNatClampNeg := ek148_0.trans (congrFun (up_k hn50 (by decide)) vr.toNatClampNeg).symm
                have ez52 : y47 = nu50 0 8 := ey47.trans (congrFun (up_k hn50 (by decide)) 8).symm
                have kp53 : ∀ k : Nat, 2 ≤ k → k < 3 → nu50 k = mu k := fun k h1 h2 => (up_k hn50 (ne_hi (by decide) h2).symm).trans (kq148_0 k h1 h2)
                have kp54 : (∀ k f : Nat, Nat.testBit 510 (gpM k f) = true → nu50 k f = mu k f) := kp_c 0 hn50 (fun _ => rfl) (by decide) kq148_1
                refine lv_aload_n hx hb dX12_hadOn_175 rfl (lv_at hl 5 rfl) ?_
                refine lv_iload_n hx hb dX12_hadOn_176 rfl (lv_at hl 6 rfl) ?_
                refine lv_iload_n hx hb dX12_hadOn_177 rfl (lv_at hl 7 rfl) ?_
                refine lv_iconst (v := 1) hx hb dX12_hadOn_178 (by decide) ?_
                refine lv_iadd hx hb dX12_hadOn_179 ?_
                refine lq_i 6 (by decide) ?_
                refine lv_iload_n hx hb dX12_hadOn_180 rfl (lv_at hl 8 rfl) ?_
                refine lv_iconst (v := 1) hx hb dX12_hadOn_181 (by decide) ?_
                refine lv_iload hx hb dX12_hadOn_182 (lv_at hl 0 rfl) ?_
                refine lv_ishl hx hb dX12_hadOn_184 ?_
                refine lv_topi (fun t55 et55 => ?_)
                refine lv_ior hx hb dX12_hadOn_185 ?_
                refine lv_topi (fun t56 et56 => ?_)
                refine lv_iload hx hb dX12_hadOn_186 (lv_at hl 3 rfl) ?_
                have hFc := fr_all (wR_D nu50 hD) hS hA
                refine va_callv (va_runV (As := [.int vr, .int 6, .int t56, .int r5]) (rest := []) ⟨hx, hb, hml, hown, hts⟩ (sm_hadOn6 l dC dI cs ad nu50 ok H hP ((wR_D nu50 hD).weaken (fun _ _ _ _ => trivial)) vr t56 r5 (by have h51 : (6 : Int32).toInt = 6 := rfl; omega) (by have h51 : (6 : Int32).toInt = 6 := rfl; have hb57 := congrArg Int32.toInt ez51; omega)) (cwV 4 hts (wU_V mw_7_24 mw_7_21 mw_7_23 mw_0_62 mw_1_13) rfl rfl rfl (by decide +kernel) ⟨Nat.le_of_ble_eq_true rfl, Nat.le_of_ble_eq_true rfl⟩) ⟨sz_c, va_recv hK hP (ci := 12) (q0 := 0) rfl (gM_0 cs ad nu50), sz_m hK hz⟩ rfl rfl hl.1 rfl (lv_room (Nat.le_of_ble_eq_true rfl)) dX12_hadOn_188 ⟨Nat.zero_le _, Nat.zero_le _⟩) hS (fun q _ h => hFc q h) hFc (fun xi58 t H58 locs ht hvm hw58 hB hz1 hk1 hS => ?_)
                have hP : va_P (dC, dI) vwCl (wR 21 ad (EM cs ad) xi58) H58 := by rw [← ht]; exact hB
                obtain ⟨ok, hw58, hkp58_0, hkp58_1⟩ := hw58
                have ez59 : y1 = xi58 2 vr.toNatClampNeg := ez51.trans (congrFun (hkp58_0 2 (by decide) (by decide)) vr.toNatClampNeg).symm
                have kp60 : ∀ k : Nat, 2 ≤ k → k < 3 → xi58 k = mu k := fun k h1 h2 => (hkp58_0 k (Nat.le_trans (by decide) h1) (Nat.lt_of_lt_of_le h2 (by decide))).trans (kp53 k h1 h2)
                have kp61 : (∀ k f : Nat, Nat.testBit 510 (gpM k f) = true → xi58 k f = mu k f) := kp_t hkp58_1 (by decide) kp54
                refine lv_iinc (v := (v9_148 + 1)) (lv' := [(9, .int (v9_148 + 1)), (8, .int t46), (7, .int 1), (6, .int r5), (5, .int y4), (0, .ref (ad 0)), (1, .int vr), (2, .int 5), (3, .int vh), (4, .int vp)]) hx hb dX12_hadOn_191 hl (k := 0) rfl rfl (by decide) rfl (fun ls hl => ?_)
                refine loc_gen (P := fun w9 => lv_has ls 10 [(9, .int w9), (8, .int t46), (7, .int 1), (6, .int r5), (5, .int y4), (0, .ref (ad 0)), (1, .int vr), (2, .int 5), (3, .int vh), (4, .int vp)]) (v9_148 + 1) hl (fun w62 hw62 hl => ?_)
                have hl : lv_has ls 10 [(9, .int w62), (8, .int t46), (7, .int 1), (6, .int r5), (5, .int y4), (0, .ref (ad 0)), (1, .int vr), (2, .int 5), (3, .int vh), (4, .int vp)] := hl
                have aw62 : w62.toInt = v9_148.toInt + 1 := by rw [← hw62]; exact tI_add (rfl : v9_148.toInt = _) (rfl : (1 : Int32).toInt = 1) (by omega) (by omega)
                refine lv_goto (tgt := 148) hx hb dX12_hadOn_194 (by decide) ?_
                exact ih148 (w62) xi58 _ _ _ (by omega) (by exact ⟨by omega, by omega⟩)  ok hP ez59 kp60 kp61 hS (lv_sub hl [0, 1, 2, 3, 4, 5, 6, 7, 8, 9] rfl)
              · have f49 : ¬ rb t46 v9_148 = 1 := f49
                refine lv_if_eq (tgt := 191) hx hb dX12_hadOn_164 (by decide) (fun _ => ?_) (fun c => absurd (by decide) c)
                refine lv_iinc (v := (v9_148 + 1)) (lv' := [(9, .int (v9_148 + 1)), (8, .int t46), (7, .int 1), (6, .int r5), (5, .int y4), (0, .ref (ad 0)), (1, .int vr), (2, .int 5), (3, .int vh), (4, .int vp)]) hx hb dX12_hadOn_191 hl (k := 0) rfl rfl (by decide) rfl (fun ls hl => ?_)
                refine loc_gen (P := fun w9 => lv_has ls 10 [(9, .int w9), (8, .int t46), (7, .int 1), (6, .int r5), (5, .int y4), (0, .ref (ad 0)), (1, .int vr), (2, .int 5), (3, .int vh), (4, .int vp)]) (v9_148 + 1) hl (fun w63 hw63 hl => ?_)
                have hl : lv_has ls 10 [(9, .int w63), (8, .int t46), (7, .int 1), (6, .int r5), (5, .int y4), (0, .ref (ad 0)), (1, .int vr), (2, .int 5), (3, .int vh), (4, .int vp)] := hl
                have aw63 : w63.toInt = v9_148.toInt + 1 := by rw [← hw63]; exact tI_add (rfl : v9_148.toInt = _) (rfl : (1 : Int32).toInt = 1) (by omega) (by omega)
                refine lv_goto (tgt := 148) hx hb dX12_hadOn_194 (by decide) ?_
                exact ih148 (w63) nu148_ _ _ _ (by omega) (by exact ⟨by omega, by omega⟩)  ok hP ek148_0 kq148_0 kq148_1 hS (lv_sub hl [0, 1, 2, 3, 4, 5, 6, 7, 8, 9] rfl)
        exact loop148 ((7 + 1 - (0 : Int32).toInt).toNat + 1) (0) mu _ _ _ (Nat.lt_succ_self _) (by have h80 : (0 : Int32).toInt = 0 := rfl; exact ⟨by omega, by omega⟩)  ok hP ey1 (fun _ _ _ => rfl) (fun _ _ _ => rfl) hS hl
  · have c_3 : 5 = t2.toInt := il_eq c_3
    refine lv_aload_n hx hb dX12_hadOn_12 rfl (lv_at hl 0 rfl) ?_
    refine va_get (D := (dC, dI)) (ci := 12) (v := .int (mu 0 42)) (C := RX12) (T := TX12) (N := 46) hx hb hts inG12 hown hK hP 0 (gM_0 cs ad mu) rfl 42 (by decide) (hts _ (List.mem_cons_of_mem _ mw_5_83)) (fun _ h9 => h9) rfl dX12_hadOn_13 ?_
    refine lv_topi (fun y64 ey64 => ?_)
    have by64 : y64.toInt = (mu 0 42).toInt := congrArg Int32.toInt ey64
    refine lv_if_ne (tgt := 28) hx hb dX12_hadOn_16 (by decide) (fun c_65 => ?_) (fun c_65 => ?_)
    · have c_65 : ¬ y64.toInt = 0 := il_ne c_65
      refine lv_aload_n hx hb dX12_hadOn_28 rfl (lv_at hl 0 rfl) ?_
      refine lv_dup hx hb dX12_hadOn_29 rfl ?_
      refine va_get (D := (dC, dI)) (ci := 12) (v := .int (mu 0 42)) (C := RX12) (T := TX12) (N := 46) hx hb hts inG12 hown hK hP 0 (gM_0 cs ad mu) rfl 42 (by decide) (hts _ (List.mem_cons_of_mem _ mw_5_83)) (fun _ h9 => h9) rfl dX12_hadOn_30 ?_
      refine lq_i y64 ey64.symm ?_
      refine lv_iconst (v := 1) hx hb dX12_hadOn_33 (by decide) ?_
      refine lv_iadd hx hb dX12_hadOn_34 ?_
      refine lv_topi (fun t66 et66 => ?_)
      refine va_put (D := (dC, dI)) (ci := 12) (v := .int t66) (ty := .int) (C := RX12) (T := TX12) (N := 46) hx hb hts inG12 tyX12 tyX12_ok nmX12 hown hK hP (wR_D mu hD) hS 0 (gM_0 cs ad mu) rfl 42 (by decide) (hts _ (List.mem_cons_of_mem _ mw_5_83)) (fun _ h9 => h9) rfl (by decide +kernel) rfl rfl (Nat.le_of_ble_eq_true rfl) dX12_hadOn_35 (fun H locs hP _ hS => ?_)
      simp only [List.set_cons_succ, List.set_cons_zero] at hP
      refine wr_gen (upd (mu 0) 42 t66) hP ((hM_0_42 cs ad _ _)) (fun nu67 hn67 hP => ?_)
      have ok := tM_0_42 ok hn67
      have ez68 : y1 = nu67 2 vr.toNatClampNeg := ey1.trans (congrFun (up_k hn67 (by decide)) vr.toNatClampNeg).symm
      have kp69 : ∀ k : Nat, 2 ≤ k → k < 3 → nu67 k = mu k := fun k h1 h2 => (up_k hn67 (ne_lo (by decide) h1).symm).trans ((fun _ _ _ => rfl) k h1 h2)
      have kp70 : (∀ k f : Nat, Nat.testBit 510 (gpM k f) = true → nu67 k f = mu k f) := kp_f hn67 (by decide) (fun _ _ _ => rfl)
      have ez71 : t66 = nu67 0 42 := up_v hn67
      refine lv_aload_n hx hb dX12_hadOn_38 rfl (lv_at hl 0 rfl) ?_
      refine lv_dup hx hb dX12_hadOn_39 rfl ?_
      refine va_get (D := (dC, dI)) (ci := 12) (v := .int (nu67 0 43)) (C := RX12) (T := TX12) (N := 46) hx hb hts inG12 hown hK hP 0 (gM_0 cs ad nu67) rfl 43 (by decide) (hts _ (List.mem_cons_of_mem _ mw_5_84)) (fun _ h9 => h9) rfl dX12_hadOn_40 ?_
      refine lv_topi (fun y72 ey72 => ?_)
      have by72 : y72.toInt = (nu67 0 43).toInt := congrArg Int32.toInt ey72
      refine lv_iconst (v := 1) hx hb dX12_hadOn_43 (by decide) ?_
      refine lv_aload_n hx hb dX12_hadOn_44 rfl (lv_at hl 0 rfl) ?_
      refine va_get (D := (dC, dI)) (ci := 12) (v := .ref (ad 16)) (C := RX12) (T := TX12) (N := 46) hx hb hts inG12 hown hK hP 0 (gM_0 cs ad nu67) rfl 26 (by decide) (hts _ (List.mem_cons_of_mem _ mw_5_67)) (fun _ h9 => h9) rfl dX12_hadOn_45 ?_
      refine lv_iload_n hx hb dX12_hadOn_48 rfl (lv_at hl 2 rfl) ?_
      refine lv_iconst (v := 1) hx hb dX12_hadOn_49 (by decide) ?_
      refine lv_isub hx hb dX12_hadOn_50 ?_
      refine lq_i 4 (by decide) ?_
      refine va_iald hx hb hK hP 16 0 (gM_16 cs ad nu67) rfl (show vp_in 4 7 from (by unfold vp_in; decide)) dX12_hadOn_51 ?_
      refine lv_topi (fun y73 ey73 => ?_)
      have by73 : y73.toInt = (nu67 16 (4 : Int32).toNatClampNeg).toInt := congrArg Int32.toInt ey73
      have gy73 : 0 ≤ y73.toInt ∧ y73.toInt ≤ 6 := by rw [ey73]; exact rM_16_s ok (4 : Int32).toNatClampNeg
      refine lv_ishl hx hb dX12_hadOn_52 ?_
      refine lv_topi (fun t74 et74 => ?_)
      refine lv_ior hx hb dX12_hadOn_53 ?_
      refine lv_topi (fun t75 et75 => ?_)
      refine va_put (D := (dC, dI)) (ci := 12) (v := .int t75) (ty := .int) (C := RX12) (T := TX12) (N := 46) hx hb hts inG12 tyX12 tyX12_ok nmX12 hown hK hP (wR_D nu67 hD) hS 0 (gM_0 cs ad nu67) rfl 43 (by decide) (hts _ (List.mem_cons_of_mem _ mw_5_84)) (fun _ h9 => h9) rfl (by decide +kernel) rfl rfl (Nat.le_of_ble_eq_true rfl) dX12_hadOn_54 (fun H locs hP _ hS => ?_)
      simp only [List.set_cons_succ, List.set_cons_zero] at hP
      refine wr_gen (upd (nu67 0) 43 t75) hP ((hM_0_43 cs ad _ _)) (fun nu76 hn76 hP => ?_)
      have ok := tM_0_43 ok hn76
      have ez77 : y1 = nu76 2 vr.toNatClampNeg := ez68.trans (congrFun (up_k hn76 (by decide)) vr.toNatClampNeg).symm
      have ez78 : t66 = nu76 0 42 := ez71.trans (up_f hn76 (by decide)).symm
      have ez79 : y73 = nu76 16 (4 : Int32).toNatClampNeg := ey73.trans (congrFun (up_k hn76 (by decide)) (4 : Int32).toNatClampNeg).symm
      have kp80 : ∀ k : Nat, 2 ≤ k → k < 3 → nu76 k = mu k := fun k h1 h2 => (up_k hn76 (ne_lo (by decide) h1).symm).trans (kp69 k h1 h2)
      have kp81 : (∀ k f : Nat, Nat.testBit 510 (gpM k f) = true → nu76 k f = mu k f) := kp_f hn76 (by decide) kp70
      have ez82 : t75 = nu76 0 43 := up_v hn76
      refine lv_aload_n hx hb dX12_hadOn_57 rfl (lv_at hl 0 rfl) ?_
      refine lv_dup hx hb dX12_hadOn_58 rfl ?_
      refine va_get (D := (dC, dI)) (ci := 12) (v := .int (nu76 0 44)) (C := RX12) (T := TX12) (N := 46) hx hb hts inG12 hown hK hP 0 (gM_0 cs ad nu76) rfl 44 (by decide) (hts _ (List.mem_cons_of_mem _ mw_5_85)) (fun _ h9 => h9) rfl dX12_hadOn_59 ?_
      refine lv_topi (fun y83 ey83 => ?_)
      have by83 : y83.toInt = (nu76 0 44).toInt := congrArg Int32.toInt ey83
      refine lv_iload_n hx hb dX12_hadOn_62 rfl (lv_at hl 3 rfl) ?_
      refine lv_iand hx hb dX12_hadOn_63 ?_
      refine lv_topi (fun t84 et84 => ?_)
      refine va_put (D := (dC, dI)) (ci := 12) (v := .int t84) (ty := .int) (C := RX12) (T := TX12) (N := 46) hx hb hts inG12 tyX12 tyX12_ok nmX12 hown hK hP (wR_D nu76 hD) hS 0 (gM_0 cs ad nu76) rfl 44 (by decide) (hts _ (List.mem_cons_of_mem _ mw_5_85)) (fun _ h9 => h9) rfl (by decide +kernel) rfl rfl (Nat.le_of_ble_eq_true rfl) dX12_hadOn_64 (fun H locs hP _ hS => ?_)
      simp only [List.set_cons_succ, List.set_cons_zero] at hP
      refine wr_gen (upd (nu76 0) 44 t84) hP ((hM_0_44 cs ad _ _)) (fun nu85 hn85 hP => ?_)
      have ok := tM_0_44 ok hn85
      have ez86 : y1 = nu85 2 vr.toNatClampNeg := ez77.trans (congrFun (up_k hn85 (by decide)) vr.toNatClampNeg).symm
      have ez87 : t66 = nu85 0 42 := ez78.trans (up_f hn85 (by decide)).symm
      have ez88 : y73 = nu85 16 (4 : Int32).toNatClampNeg := ez79.trans (congrFun (up_k hn85 (by decide)) (4 : Int32).toNatClampNeg).symm
      have ez89 : t75 = nu85 0 43 := ez82.trans (up_f hn85 (by decide)).symm
      have kp90 : ∀ k : Nat, 2 ≤ k → k < 3 → nu85 k = mu k := fun k h1 h2 => (up_k hn85 (ne_lo (by decide) h1).symm).trans (kp80 k h1 h2)
      have kp91 : (∀ k f : Nat, Nat.testBit 510 (gpM k f) = true → nu85 k f = mu k f) := kp_f hn85 (by decide) kp81
      have ez92 : t84 = nu85 0 44 := up_v hn85
      exact W.vret hx hb hr (fun t ht hW => ⟨⟨nu85, rfl, ⟨ok, trivial, kp90, kp91⟩, by first | (subst ht; exact hP) | (rw [ht]; exact hP) | (show va_P (dC, dI) vwCl (wR 21 ad (EM cs ad) nu85) t.heap; rw [ht]; exact hP)⟩, hS.F ht⟩) hS.2.2 dX12_hadOn_67
    · have c_65 : y64.toInt = 0 := il_eq c_65
      refine lv_aload_n hx hb dX12_hadOn_19 rfl (lv_at hl 0 rfl) ?_
      refine lv_aload_n hx hb dX12_hadOn_20 rfl (lv_at hl 0 rfl) ?_
      refine va_get (D := (dC, dI)) (ci := 12) (v := .ref (ad 17)) (C := RX12) (T := TX12) (N := 46) hx hb hts inG12 hown hK hP 0 (gM_0 cs ad mu) rfl 27 (by decide) (hts _ (List.mem_cons_of_mem _ mw_5_68)) (fun _ h9 => h9) rfl dX12_hadOn_21 ?_
      refine lv_iload_n hx hb dX12_hadOn_24 rfl (lv_at hl 2 rfl) ?_
      have hFc := fr_all (wR_D mu hD) hS hA
      refine va_callv (va_runV (As := [.ref (ad 17), .int 5]) (rest := []) ⟨hx, hb, hml, hown, hts⟩ (sm_copyRoute17 l dC dI cs ad mu ok s.heap hP ((wR_D mu hD).weaken (fun _ _ _ _ => trivial)) 5 (by have h51 : (5 : Int32).toInt = 5 := rfl; omega)) (cwV 2 hts (wU_V mw_6_191 mw_6_188 mw_6_190 mw_0_57 mw_1_13) rfl rfl rfl (by decide +kernel) ⟨Nat.le_of_ble_eq_true rfl, Nat.le_of_ble_eq_true rfl⟩) ⟨sz_c, va_recv hK hP (ci := 12) (q0 := 0) rfl (gM_0 cs ad mu), sz_m hK hz⟩ rfl rfl hl.1 rfl (lv_room (Nat.le_of_ble_eq_true rfl)) dX12_hadOn_25 ⟨Nat.zero_le _, Nat.zero_le _⟩) hS (fun q _ h => hFc q h) hFc (fun xi93 t H93 locs ht hvm hw93 hB hz1 hk1 hS => ?_)
      have hP : va_P (dC, dI) vwCl (wR 21 ad (EM cs ad) xi93) H93 := by rw [← ht]; exact hB
      obtain ⟨ok, hw93, hkp93_0, hkp93_1⟩ := hw93
      have ez94 : y1 = xi93 2 vr.toNatClampNeg := ey1.trans (congrFun (hkp93_0 2 (by decide) (by decide)) vr.toNatClampNeg).symm
      have ez95 : y64 = xi93 0 42 := ey64.trans (congrFun (hkp93_0 0 (by decide) (by decide)) 42).symm
      have kp96 : ∀ k : Nat, 2 ≤ k → k < 3 → xi93 k = mu k := fun k h1 h2 => (hkp93_0 k (Nat.le_trans (by decide) h1) (Nat.lt_of_lt_of_le h2 (by decide))).trans ((fun _ _ _ => rfl) k h1 h2)
      have kp97 : (∀ k f : Nat, Nat.testBit 510 (gpM k f) = true → xi93 k f = mu k f) := kp_t hkp93_1 (by decide) (fun _ _ _ => rfl)
      refine lv_aload_n hx hb dX12_hadOn_28 rfl (lv_at hl 0 rfl) ?_
      refine lv_dup hx hb dX12_hadOn_29 rfl ?_
      refine va_get (D := (dC, dI)) (ci := 12) (v := .int (xi93 0 42)) (C := RX12) (T := TX12) (N := 46) hx hb hts inG12 hown hK hP 0 (gM_0 cs ad xi93) rfl 42 (by decide) (hts _ (List.mem_cons_of_mem _ mw_5_83)) (fun _ h9 => h9) rfl dX12_hadOn_30 ?_
      refine lq_i y64 ez95.symm ?_
      refine lv_iconst (v := 1) hx hb dX12_hadOn_33 (by decide) ?_
      refine lv_iadd hx hb dX12_hadOn_34 ?_
      refine lv_topi (fun t98 et98 => ?_)
      have at98 : t98.toInt = y64.toInt + 1 := by rw [et98]; exact tI_add (rfl : y64.toInt = _) (rfl : (1 : Int32).toInt = 1) (by omega) (by omega)
      refine va_put (D := (dC, dI)) (ci := 12) (v := .int t98) (ty := .int) (C := RX12) (T := TX12) (N := 46) hx hb hts inG12 tyX12 tyX12_ok nmX12 hown hK hP (wR_D xi93 hD) hS 0 (gM_0 cs ad xi93) rfl 42 (by decide) (hts _ (List.mem_cons_of_mem _ mw_5_83)) (fun _ h9 => h9) rfl (by decide +kernel) rfl rfl (Nat.le_of_ble_eq_true rfl) dX12_hadOn_35 (fun H locs hP _ hS => ?_)
      simp only [List.set_cons_succ, List.set_cons_zero] at hP
      refine wr_gen (upd (xi93 0) 42 t98) hP ((hM_0_42 cs ad _ _)) (fun nu99 hn99 hP => ?_)
      have ok := tM_0_42 ok hn99
      have ez100 : y1 = nu99 2 vr.toNatClampNeg := ez94.trans (congrFun (up_k hn99 (by decide)) vr.toNatClampNeg).symm
      have kp101 : ∀ k : Nat, 2 ≤ k → k < 3 → nu99 k = mu k := fun k h1 h2 => (up_k hn99 (ne_lo (by decide) h1).symm).trans (kp96 k h1 h2)
      have kp102 : (∀ k f : Nat, Nat.testBit 510 (gpM k f) = true → nu99 k f = mu k f) := kp_f hn99 (by decide) kp97
      have ez103 : t98 = nu99 0 42 := up_v hn99
      refine lv_aload_n hx hb dX12_hadOn_38 rfl (lv_at hl 0 rfl) ?_
      refine lv_dup hx hb dX12_hadOn_39 rfl ?_
      refine va_get (D := (dC, dI)) (ci := 12) (v := .int (nu99 0 43)) (C := RX12) (T := TX12) (N := 46) hx hb hts inG12 hown hK hP 0 (gM_0 cs ad nu99) rfl 43 (by decide) (hts _ (List.mem_cons_of_mem _ mw_5_84)) (fun _ h9 => h9) rfl dX12_hadOn_40 ?_
      refine lv_topi (fun y104 ey104 => ?_)
      have by104 : y104.toInt = (nu99 0 43).toInt := congrArg Int32.toInt ey104
      refine lv_iconst (v := 1) hx hb dX12_hadOn_43 (by decide) ?_
      refine lv_aload_n hx hb dX12_hadOn_44 rfl (lv_at hl 0 rfl) ?_
      refine va_get (D := (dC, dI)) (ci := 12) (v := .ref (ad 16)) (C := RX12) (T := TX12) (N := 46) hx hb hts inG12 hown hK hP 0 (gM_0 cs ad nu99) rfl 26 (by decide) (hts _ (List.mem_cons_of_mem _ mw_5_67)) (fun _ h9 => h9) rfl dX12_hadOn_45 ?_
      refine lv_iload_n hx hb dX12_hadOn_48 rfl (lv_at hl 2 rfl) ?_
      refine lv_iconst (v := 1) hx hb dX12_hadOn_49 (by decide) ?_
      refine lv_isub hx hb dX12_hadOn_50 ?_
      refine lq_i 4 (by decide) ?_
      refine va_iald hx hb hK hP 16 0 (gM_16 cs ad nu99) rfl (show vp_in 4 7 from (by unfold vp_in; decide)) dX12_hadOn_51 ?_
      refine lv_topi (fun y105 ey105 => ?_)
      have by105 : y105.toInt = (nu99 16 (4 : Int32).toNatClampNeg).toInt := congrArg Int32.toInt ey105
      have gy105 : 0 ≤ y105.toInt ∧ y105.toInt ≤ 6 := by rw [ey105]; exact rM_16_s ok (4 : Int32).toNatClampNeg
      refine lv_ishl hx hb dX12_hadOn_52 ?_
      refine lv_topi (fun t106 et106 => ?_)
      refine lv_ior hx hb dX12_hadOn_53 ?_
      refine lv_topi (fun t107 et107 => ?_)
      refine va_put (D := (dC, dI)) (ci := 12) (v := .int t107) (ty := .int) (C := RX12) (T := TX12) (N := 46) hx hb hts inG12 tyX12 tyX12_ok nmX12 hown hK hP (wR_D nu99 hD) hS 0 (gM_0 cs ad nu99) rfl 43 (by decide) (hts _ (List.mem_cons_of_mem _ mw_5_84)) (fun _ h9 => h9) rfl (by decide +kernel) rfl rfl (Nat.le_of_ble_eq_true rfl) dX12_hadOn_54 (fun H locs hP _ hS => ?_)
      simp only [List.set_cons_succ, List.set_cons_zero] at hP
      refine wr_gen (upd (nu99 0) 43 t107) hP ((hM_0_43 cs ad _ _)) (fun nu108 hn108 hP => ?_)
      have ok := tM_0_43 ok hn108
      have ez109 : y1 = nu108 2 vr.toNatClampNeg := ez100.trans (congrFun (up_k hn108 (by decide)) vr.toNatClampNeg).symm
      have ez110 : t98 = nu108 0 42 := ez103.trans (up_f hn108 (by decide)).symm
      have ez111 : y105 = nu108 16 (4 : Int32).toNatClampNeg := ey105.trans (congrFun (up_k hn108 (by decide)) (4 : Int32).toNatClampNeg).symm
      have kp112 : ∀ k : Nat, 2 ≤ k → k < 3 → nu108 k = mu k := fun k h1 h2 => (up_k hn108 (ne_lo (by decide) h1).symm).trans (kp101 k h1 h2)
      have kp113 : (∀ k f : Nat, Nat.testBit 510 (gpM k f) = true → nu108 k f = mu k f) := kp_f hn108 (by decide) kp102
      have ez114 : t107 = nu108 0 43 := up_v hn108
      refine lv_aload_n hx hb dX12_hadOn_57 rfl (lv_at hl 0 rfl) ?_
      refine lv_dup hx hb dX12_hadOn_58 rfl ?_
      refine va_get (D := (dC, dI)) (ci := 12) (v := .int (nu108 0 44)) (C := RX12) (T := TX12) (N := 46) hx hb hts inG12 hown hK hP 0 (gM_0 cs ad nu108) rfl 44 (by decide) (hts _ (List.mem_cons_of_mem _ mw_5_85)) (fun _ h9 => h9) rfl dX12_hadOn_59 ?_
      refine lv_topi (fun y115 ey115 => ?_)
      have by115 : y115.toInt = (nu108 0 44).toInt := congrArg Int32.toInt ey115
      refine lv_iload_n hx hb dX12_hadOn_62 rfl (lv_at hl 3 rfl) ?_
      refine lv_iand hx hb dX12_hadOn_63 ?_
      refine lv_topi (fun t116 et116 => ?_)
      refine va_put (D := (dC, dI)) (ci := 12) (v := .int t116) (ty := .int) (C := RX12) (T := TX12) (N := 46) hx hb hts inG12 tyX12 tyX12_ok nmX12 hown hK hP (wR_D nu108 hD) hS 0 (gM_0 cs ad nu108) rfl 44 (by decide) (hts _ (List.mem_cons_of_mem _ mw_5_85)) (fun _ h9 => h9) rfl (by decide +kernel) rfl rfl (Nat.le_of_ble_eq_true rfl) dX12_hadOn_64 (fun H locs hP _ hS => ?_)
      simp only [List.set_cons_succ, List.set_cons_zero] at hP
      refine wr_gen (upd (nu108 0) 44 t116) hP ((hM_0_44 cs ad _ _)) (fun nu117 hn117 hP => ?_)
      have ok := tM_0_44 ok hn117
      have ez118 : y1 = nu117 2 vr.toNatClampNeg := ez109.trans (congrFun (up_k hn117 (by decide)) vr.toNatClampNeg).symm
      have ez119 : t98 = nu117 0 42 := ez110.trans (up_f hn117 (by decide)).symm
      have ez120 : y105 = nu117 16 (4 : Int32).toNatClampNeg := ez111.trans (congrFun (up_k hn117 (by decide)) (4 : Int32).toNatClampNeg).symm
      have ez121 : t107 = nu117 0 43 := ez114.trans (up_f hn117 (by decide)).symm
      have kp122 : ∀ k : Nat, 2 ≤ k → k < 3 → nu117 k = mu k := fun k h1 h2 => (up_k hn117 (ne_lo (by decide) h1).symm).trans (kp112 k h1 h2)
      have kp123 : (∀ k f : Nat, Nat.testBit 510 (gpM k f) = true → nu117 k f = mu k f) := kp_f hn117 (by decide) kp113
      have ez124 : t116 = nu117 0 44 := up_v hn117
      exact W.vret hx hb hr (fun t ht hW => ⟨⟨nu117, rfl, ⟨ok, trivial, kp122, kp123⟩, by first | (subst ht; exact hP) | (rw [ht]; exact hP) | (show va_P (dC, dI) vwCl (wR 21 ad (EM cs ad) nu117) t.heap; rw [ht]; exact hP)⟩, hS.F ht⟩) hS.2.2 dX12_hadOn_67
