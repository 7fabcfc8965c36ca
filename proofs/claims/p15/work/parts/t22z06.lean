set_option maxHeartbeats 4000000 in
set_option maxRecDepth 100000 in
/-- sm_hadOn1 -/
theorem sm_hadOn1 (l : Launch) (dC : Nat → ClassId) (dI : Nat → Nat → Nat) (cs : Nat → ClassId) (ad : Nat → Nat) (mu : Nat → Nat → Int32) (ok : okR loM hiM mu) (H : Heap) (hP : va_P (dC, dI) vwCl (wR 21 ad (EM cs ad) mu) H) (hD0 : va_D (fun _ => True) (wR 21 ad (EM cs ad) mu)) (vr : Int32) (vh : Int32) (vp : Int32) (hin0 : 0 ≤ vr.toInt ∧ vr.toInt ≤ 5) (hin1 : 1 ≤ (mu 2 vr.toNatClampNeg).toInt + 1 ∧ (mu 2 vr.toNatClampNeg).toInt ≤ 6) : Met l yX12_hadOn (wU yX12_hadOn cX12_hadOn 10 none) ({ frames := 7, cells := 0, slots := 0, locals := 197 }) (va_Pc [.ref (ad 0), .int vr, .int 1, .int vh, .int vp] (sz_P (dC, dI) vwCl (tyM cs) H)) (va_Qv (fun (xi : Nat → Nat → Int32) => okR loM hiM xi ∧ (True) ∧ (∀ k : Nat, 2 ≤ k → k < 3 → xi k = mu k) ∧ (∀ k f : Nat, Nat.testBit 510 (gpM k f) = true → xi k f = mu k f)) (fun xi t => va_P (dC, dI) vwCl (wR 21 ad (EM cs ad) xi) t.heap) (va_A (wR 21 ad (EM cs ad) mu) H.size)) 0 0 (va_A (wR 21 ad (EM cs ad) mu) H.size) := by
  refine Met.ofW (cc := cX12_hadOn) (maxL := 10) (ret := none) (by decide) rfl ?_
  intro p e s m args below meth c s₁ B hml hv
  obtain ⟨rfl, hh, hK, hz⟩ := hv
  have hx := B.exec
  have hb := B.bytes
  have hr := B.returns
  have hts := atoms_spec (ws := (wU yX12_hadOn cX12_hadOn 10 none)) B.pre
  have hown : s.vm.findClass RX12 = some m.cls := findClass_of_methodNamed B.named
  have hlocks := B.notSynchronized
  subst hh
  have hD := hD0.self (sz := s.heap.size)
  have hA : ∀ q : Nat, s.heap.size ≤ q → (va_A (wR 21 ad (EM cs ad) mu) s.heap.size) q := fun q h => Or.inr h
  have hS : va_S (va_A (wR 21 ad (EM cs ad) mu) s.heap.size) s.heap s.heap [] := va_S.rf
  have hl := lv_entry ([.ref (ad 0), .int vr, .int 1, .int vh, .int vp]) (n := 10) (Nat.le_of_ble_eq_true rfl)
  rw [lg_entry_eq]
  generalize (lg_sl ([.ref (ad 0), .int vr, .int 1, .int vh, .int vp]) ++ List.replicate (10 - (lg_sl ([.ref (ad 0), .int vr, .int 1, .int vh, .int vp])).length) Slot.unset).toArray = ls at hl ⊢
  have hl : lv_has ls 10 [(0, .ref (ad 0)), (1, .int vr), (2, .int 1), (3, .int vh), (4, .int vp)] := hl
  refine lv_iload_n hx hb dX12_hadOn_0 rfl (lv_at hl 2 rfl) ?_
  refine lv_aload_n hx hb dX12_hadOn_1 rfl (lv_at hl 0 rfl) ?_
  refine va_get (D := (dC, dI)) (ci := 12) (v := .ref (ad 2)) (C := RX12) (T := TX12) (N := 46) hx hb hts inG12 hown hK hP 0 (gM_0 cs ad mu) rfl 3 (by decide) (hts _ (List.mem_cons_of_mem _ mw_5_44)) (fun _ h9 => h9) rfl dX12_hadOn_2 ?_
  refine lv_iload_n hx hb dX12_hadOn_5 rfl (lv_at hl 1 rfl) ?_
  refine va_iald hx hb hK hP 2 0 (gM_2 cs ad mu) rfl (show vp_in vr 6 from vi_of (by omega) (by omega)) dX12_hadOn_6 ?_
  refine lv_topi (fun y1 ey1 => ?_)
  have by1 : y1.toInt = (mu 2 vr.toNatClampNeg).toInt := congrArg Int32.toInt ey1
  have gy1 : -9 ≤ y1.toInt ∧ y1.toInt ≤ 40 := by rw [ey1]; exact rM_2_s ok vr.toNatClampNeg
  refine lv_iconst (v := 1) hx hb dX12_hadOn_7 (by decide) ?_
  refine lv_iadd hx hb dX12_hadOn_8 ?_
  refine lv_topi (fun t2 et2 => ?_)
  have at2 : t2.toInt = y1.toInt + 1 := by rw [et2]; exact tI_add (rfl : y1.toInt = _) (rfl : (1 : Int32).toInt = 1) (by omega) (by omega)
  refine lv_icmp_ne (tgt := 68) hx hb dX12_hadOn_9 (by decide) (fun c_3 => ?_) (fun c_3 => ?_)
  · have c_3 : ¬ 1 = t2.toInt := il_ne c_3
    refine lv_aload_n hx hb dX12_hadOn_68 rfl (lv_at hl 0 rfl) ?_
    refine va_get (D := (dC, dI)) (ci := 12) (v := .ref (ad 16)) (C := RX12) (T := TX12) (N := 46) hx hb hts inG12 hown hK hP 0 (gM_0 cs ad mu) rfl 26 (by decide) (hts _ (List.mem_cons_of_mem _ mw_5_67)) (fun _ h9 => h9) rfl dX12_hadOn_69 ?_
    refine lv_iload_n hx hb dX12_hadOn_72 rfl (lv_at hl 2 rfl) ?_
    refine lv_iconst (v := 1) hx hb dX12_hadOn_73 (by decide) ?_
    refine lv_isub hx hb dX12_hadOn_74 ?_
    refine lq_i 0 (by decide) ?_
    refine va_iald hx hb hK hP 16 0 (gM_16 cs ad mu) rfl (show vp_in 0 7 from (by unfold vp_in; decide)) dX12_hadOn_75 ?_
    refine lv_topi (fun y4 ey4 => ?_)
    have by4 : y4.toInt = (mu 16 (0 : Int32).toNatClampNeg).toInt := congrArg Int32.toInt ey4
    have gy4 : 0 ≤ y4.toInt ∧ y4.toInt ≤ 6 := by rw [ey4]; exact rM_16_s ok (0 : Int32).toNatClampNeg
    refine lv_istore (lv' := [(5, .int y4), (0, .ref (ad 0)), (1, .int vr), (2, .int 1), (3, .int vh), (4, .int vp)]) hx hb dX12_hadOn_76 hl (by decide) rfl (fun ls hl => ?_)
    refine lv_aload_n hx hb dX12_hadOn_78 rfl (lv_at hl 1 rfl) ?_
    refine lv_iload hx hb dX12_hadOn_79 (lv_at hl 0 rfl) ?_
    refine lv_iload hx hb dX12_hadOn_81 (lv_at hl 5 rfl) ?_
    refine cr_i (va_runV (As := [.int y4, .int vp]) (rest := []) ⟨hx, hb, hml, hown, hts⟩ (sm_asksOf l dC dI cs ad mu ok s.heap hP y4 vp (by omega)) (cwV 2 hts (wU_V mw_6_74 mw_6_71 mw_6_73 mw_0_42 mw_1_13) rfl rfl rfl (by decide +kernel) ⟨Nat.le_of_ble_eq_true rfl, Nat.le_of_ble_eq_true rfl⟩) ⟨sz_c, va_recv hK hP (ci := 12) (q0 := 0) rfl (gM_0 cs ad mu), sz_m hK hz⟩ rfl rfl hl.1 rfl (lv_room (Nat.le_of_ble_eq_true rfl)) dX12_hadOn_83 ⟨Nat.zero_le _, Nat.zero_le _⟩) hS (fun r5 hw5 locs hS => ?_)
    obtain ⟨hfe5, hw5⟩ := hw5
    refine lv_istore (lv' := [(6, .int r5), (5, .int y4), (0, .ref (ad 0)), (1, .int vr), (2, .int 1), (3, .int vh), (4, .int vp)]) hx hb dX12_hadOn_86 hl (by decide) rfl (fun ls hl => ?_)
    refine lv_iload hx hb dX12_hadOn_88 (lv_at hl 0 rfl) ?_
    refine lv_aload_n hx hb dX12_hadOn_90 rfl (lv_at hl 2 rfl) ?_
    refine lv_iload_n hx hb dX12_hadOn_91 rfl (lv_at hl 3 rfl) ?_
    refine lv_iload_n hx hb dX12_hadOn_92 rfl (lv_at hl 4 rfl) ?_
    refine lv_iconst (v := 1) hx hb dX12_hadOn_93 (by decide) ?_
    refine lv_isub hx hb dX12_hadOn_94 ?_
    refine lq_i 0 (by decide) ?_
    refine cr_i (va_runV (As := [.int vr, .int 0]) (rest := [.int r5]) ⟨hx, hb, hml, hown, hts⟩ (sm_rowAt l dC dI cs ad mu ok s.heap hP vr 0 (by have h51 : (0 : Int32).toInt = 0 := rfl; omega)) (cwV 2 hts (wU_V mw_5_209 mw_5_206 mw_5_208 mw_0_29 mw_1_13) rfl rfl rfl (by decide +kernel) ⟨Nat.le_of_ble_eq_true rfl, Nat.le_of_ble_eq_true rfl⟩) ⟨sz_c, va_recv hK hP (ci := 12) (q0 := 0) rfl (gM_0 cs ad mu), sz_m hK hz⟩ rfl rfl hl.1 rfl (lv_room (Nat.le_of_ble_eq_true rfl)) dX12_hadOn_95 ⟨Nat.zero_le _, Nat.zero_le _⟩) hS (fun r6 hw6 locs hS => ?_)
    refine lv_icmp_ne (tgt := 121) hx hb dX12_hadOn_98 (by decide) (fun c_7 => ?_) (fun c_7 => ?_)
    · have c_7 : ¬ r5.toInt = r6.toInt := il_ne c_7
      refine lv_iconst (v := 0) hx hb dX12_hadOn_121 (by decide) ?_
      refine lv_istore (lv' := [(7, .int 0), (6, .int r5), (5, .int y4), (0, .ref (ad 0)), (1, .int vr), (2, .int 1), (3, .int vh), (4, .int vp)]) hx hb dX12_hadOn_122 hl (by decide) rfl (fun ls hl => ?_)
      refine lv_iload hx hb dX12_hadOn_124 (lv_at hl 0 rfl) ?_
      refine lv_if_eq (tgt := 142) hx hb dX12_hadOn_126 (by decide) (fun _ => ?_) (fun c => absurd (by decide) c)
      refine lv_iconst (v := 0) hx hb dX12_hadOn_142 (by decide) ?_
      refine lv_istore (lv' := [(8, .int 0), (7, .int 0), (6, .int r5), (5, .int y4), (0, .ref (ad 0)), (1, .int vr), (2, .int 1), (3, .int vh), (4, .int vp)]) hx hb dX12_hadOn_143 hl (by decide) rfl (fun ls hl => ?_)
      refine lv_iconst (v := 0) hx hb dX12_hadOn_145 (by decide) ?_
      refine lv_istore (lv' := [(9, .int 0), (8, .int 0), (7, .int 0), (6, .int r5), (5, .int y4), (0, .ref (ad 0)), (1, .int vr), (2, .int 1), (3, .int vh), (4, .int vp)]) hx hb dX12_hadOn_146 hl (by decide) rfl (fun ls hl => ?_)
      have loop148 : ∀ (n148 : Nat) (v9_148 : Int32) (nu148_ : Nat → Nat → Int32) (H : Heap) (locs : List Loc) (ls : Array Slot), (7 + 1 - v9_148.toInt).toNat < n148 → (0 ≤ v9_148.toInt ∧ v9_148.toInt ≤ 7) → okR loM hiM nu148_ → va_P (dC, dI) vwCl (wR 21 ad (EM cs ad) nu148_) H → y1 = nu148_ 2 vr.toNatClampNeg → (∀ k : Nat, 2 ≤ k → k < 3 → nu148_ k = mu k) → (∀ k f : Nat, Nat.testBit 510 (gpM k f) = true → nu148_ k f = mu k f) → va_S (va_A (wR 21 ad (EM cs ad) mu) s.heap.size) s.heap H locs → lv_has ls 10 [(9, .int v9_148), (8, .int 0), (7, .int 0), (6, .int r5), (5, .int y4), (0, .ref (ad 0)), (1, .int vr), (2, .int 1), (3, .int vh), (4, .int vp)] → W p l e (headSpec (wU yX12_hadOn cX12_hadOn 10 none) ({ frames := 7, cells := 0, slots := 0, locals := 197 })).room s m ([.ref (ad 0), .int vr, .int 1, .int vh, .int vp] : List Value).toArray below meth c H locs 0 0 (MQ below (va_Qv (fun (xi : Nat → Nat → Int32) => okR loM hiM xi ∧ (True) ∧ (∀ k : Nat, 2 ≤ k → k < 3 → xi k = mu k) ∧ (∀ k f : Nat, Nat.testBit 510 (gpM k f) = true → xi k f = mu k f)) (fun xi t => va_P (dC, dI) vwCl (wR 21 ad (EM cs ad) xi) t.heap) (va_A (wR 21 ad (EM cs ad) mu) s.heap.size)) ([.ref (ad 0), .int vr, .int 1, .int vh, .int vp] : List Value).toArray s 0 0 (va_A (wR 21 ad (EM cs ad) mu) s.heap.size)) (F0 m 148 ls []) := by
        intro n148
        induction n148 with
        | zero => intro v9_148 nu148_ H locs ls hm; exact absurd hm (Nat.not_lt_zero _)
        | succ n148 ih148 =>
          intro v9_148 nu148_ H locs ls hm h_v9_148 ok hP ek148_0 kq148_0 kq148_1 hS hl
          refine lv_iload hx hb dX12_hadOn_148 (lv_at hl 0 rfl) ?_
          refine lv_aload_n hx hb dX12_hadOn_150 rfl (lv_at hl 5 rfl) ?_
          refine va_get (D := (dC, dI)) (ci := 12) (v := .int (nu148_ 0 8)) (C := RX12) (T := TX12) (N := 46) hx hb hts inG12 hown hK hP 0 (gM_0 cs ad nu148_) rfl 8 (by decide) (hts _ (List.mem_cons_of_mem _ mw_5_49)) (fun _ h9 => h9) rfl dX12_hadOn_151 ?_
          refine lv_topi (fun y8 ey8 => ?_)
          have by8 : y8.toInt = (nu148_ 0 8).toInt := congrArg Int32.toInt ey8
          have gy8 : 0 ≤ y8.toInt ∧ y8.toInt ≤ 7 := by rw [ey8]; exact rM_0_8 ok
          refine lv_icmp_ge (tgt := 197) hx hb dX12_hadOn_154 (by decide) (fun c_9 => ?_) (fun c_9 => ?_)
          · have c_9 : y8.toInt ≤ v9_148.toInt := il_le c_9
            exact W.vret hx hb hr (fun t ht hW => ⟨⟨nu148_, rfl, ⟨ok, trivial, kq148_0, kq148_1⟩, by first | (subst ht; exact hP) | (rw [ht]; exact hP) | (show va_P (dC, dI) vwCl (wR 21 ad (EM cs ad) nu148_) t.heap; rw [ht]; exact hP)⟩, hS.F ht⟩) hS.2.2 dX12_hadOn_197
          · have c_9 : v9_148.toInt < y8.toInt := il_nle c_9
            refine lv_iload hx hb dX12_hadOn_157 (lv_at hl 1 rfl) ?_
            refine lv_iload hx hb dX12_hadOn_159 (lv_at hl 0 rfl) ?_
            refine cr_i (va_runS (As := [.int 0, .int v9_148]) (rest := []) ⟨hx, hb, hml, hown, hts⟩ (sm_has l dC dI (tyM cs) H 0 v9_148) (va_cwS 2 hts (wU_S mw_6_59 mw_6_57 mw_6_58 mw_1_13) rfl rfl rfl (by decide +kernel) ⟨Nat.le_of_ble_eq_true rfl, Nat.le_of_ble_eq_true rfl⟩) ⟨sz_c, sz_m hK hz⟩ rfl rfl hl.1 rfl (lv_room (Nat.le_of_ble_eq_true rfl)) dX12_hadOn_161 ⟨Nat.zero_le _, Nat.zero_le _⟩) hS (fun r10 hw10 locs hS => ?_)
            obtain ⟨hfe10, hw10⟩ := hw10
            rcases hw10 with ⟨rfl, f10⟩ | ⟨rfl, f10⟩
            · have f10 : rb (0 : Int32) v9_148 = 1 := f10
              refine lv_if_eq (tgt := 191) hx hb dX12_hadOn_164 (by decide) (fun c => absurd c (by decide)) (fun _ => ?_)
              refine lv_aload_n hx hb dX12_hadOn_167 rfl (lv_at hl 5 rfl) ?_
              refine va_get (D := (dC, dI)) (ci := 12) (v := .ref (ad 16)) (C := RX12) (T := TX12) (N := 46) hx hb hts inG12 hown hK hP 0 (gM_0 cs ad nu148_) rfl 26 (by decide) (hts _ (List.mem_cons_of_mem _ mw_5_67)) (fun _ h9 => h9) rfl dX12_hadOn_168 ?_
              refine lv_iload_n hx hb dX12_hadOn_171 rfl (lv_at hl 7 rfl) ?_
              refine lv_iload hx hb dX12_hadOn_172 (lv_at hl 0 rfl) ?_
              refine va_iast hx hb hK hP (wR_D nu148_ hD) hS 16 0 (gM_16 cs ad nu148_) rfl (show vp_in 1 7 from (by unfold vp_in; decide)) dX12_hadOn_174 (fun H locs hP _ hS => ?_)
              refine wr_gen (upd (nu148_ 16) (1 : Int32).toNatClampNeg v9_148) hP (rfl) (fun nu11 hn11 hP => ?_)
              have ok := tM_16_s ok (1 : Int32).toNatClampNeg hn11 (by exact ⟨by omega, by omega⟩)
              have ez12 : y1 = nu11 2 vr.toNatClampNeg := ek148_0.trans (congrFun (up_k hn11 (by decide)) vr.toNatClampNeg).symm
              have ez13 : y8 = nu11 0 8 := ey8.trans (congrFun (up_k hn11 (by decide)) 8).symm
              have kp14 : ∀ k : Nat, 2 ≤ k → k < 3 → nu11 k = mu k := fun k h1 h2 => (up_k hn11 (ne_hi (by decide) h2).symm).trans (kq148_0 k h1 h2)
              have kp15 : (∀ k f : Nat, Nat.testBit 510 (gpM k f) = true → nu11 k f = mu k f) := kp_c 0 hn11 (fun _ => rfl) (by decide) kq148_1
              refine lv_aload_n hx hb dX12_hadOn_175 rfl (lv_at hl 5 rfl) ?_
              refine lv_iload_n hx hb dX12_hadOn_176 rfl (lv_at hl 6 rfl) ?_
              refine lv_iload_n hx hb dX12_hadOn_177 rfl (lv_at hl 7 rfl) ?_
              refine lv_iconst (v := 1) hx hb dX12_hadOn_178 (by decide) ?_
              refine lv_iadd hx hb dX12_hadOn_179 ?_
              refine lq_i 2 (by decide) ?_
              refine lv_iload_n hx hb dX12_hadOn_180 rfl (lv_at hl 8 rfl) ?_
              refine lv_iconst (v := 1) hx hb dX12_hadOn_181 (by decide) ?_
              refine lv_iload hx hb dX12_hadOn_182 (lv_at hl 0 rfl) ?_
              refine lv_ishl hx hb dX12_hadOn_184 ?_
              refine lv_topi (fun t16 et16 => ?_)
              refine lv_ior hx hb dX12_hadOn_185 ?_
              refine lv_topi (fun t17 et17 => ?_)
              refine lv_iload hx hb dX12_hadOn_186 (lv_at hl 3 rfl) ?_
              have hFc := fr_all (wR_D nu11 hD) hS hA
              refine va_callv (va_runV (As := [.int vr, .int 2, .int t17, .int r5]) (rest := []) ⟨hx, hb, hml, hown, hts⟩ (sm_hadOn2 l dC dI cs ad nu11 ok H hP ((wR_D nu11 hD).weaken (fun _ _ _ _ => trivial)) vr t17 r5 (by have h51 : (2 : Int32).toInt = 2 := rfl; omega) (by have h51 : (2 : Int32).toInt = 2 := rfl; have hb18 := congrArg Int32.toInt ez12; omega)) (cwV 4 hts (wU_V mw_7_24 mw_7_21 mw_7_23 mw_0_62 mw_1_13) rfl rfl rfl (by decide +kernel) ⟨Nat.le_of_ble_eq_true rfl, Nat.le_of_ble_eq_true rfl⟩) ⟨sz_c, va_recv hK hP (ci := 12) (q0 := 0) rfl (gM_0 cs ad nu11), sz_m hK hz⟩ rfl rfl hl.1 rfl (lv_room (Nat.le_of_ble_eq_true rfl)) dX12_hadOn_188 ⟨Nat.zero_le _, Nat.zero_le _⟩) hS (fun q _ h => hFc q h) hFc (fun xi19 t H19 locs ht hvm hw19 hB hz1 hk1 hS => ?_)
              have hP : va_P (dC, dI) vwCl (wR 21 ad (EM cs ad) xi19) H19 := by rw [← ht]; exact hB
              obtain ⟨ok, hw19, hkp19_0, hkp19_1⟩ := hw19
              have ez20 : y1 = xi19 2 vr.toNatClampNeg := ez12.trans (congrFun (hkp19_0 2 (by decide) (by decide)) vr.toNatClampNeg).symm
              have kp21 : ∀ k : Nat, 2 ≤ k → k < 3 → xi19 k = mu k := fun k h1 h2 => (hkp19_0 k (Nat.le_trans (by decide) h1) (Nat.lt_of_lt_of_le h2 (by decide))).trans (kp14 k h1 h2)
              have kp22 : (∀ k f : Nat, Nat.testBit 510 (gpM k f) = true → xi19 k f = mu k f) := kp_t hkp19_1 (by decide) kp15
              refine lv_iinc (v := (v9_148 + 1)) (lv' := [(9, .int (v9_148 + 1)), (8, .int 0), (7, .int 0), (6, .int r5), (5, .int y4), (0, .ref (ad 0)), (1, .int vr), (2, .int 1), (3, .int vh), (4, .int vp)]) hx hb dX12_hadOn_191 hl (k := 0) rfl rfl (by decide) rfl (fun ls hl => ?_)
              refine loc_gen (P := fun w9 => lv_has ls 10 [(9, .int w9), (8, .int 0), (7, .int 0), (6, .int r5), (5, .int y4), (0, .ref (ad 0)), (1, .int vr), (2, .int 1), (3, .int vh), (4, .int vp)]) (v9_148 + 1) hl (fun w23 hw23 hl => ?_)
              have hl : lv_has ls 10 [(9, .int w23), (8, .int 0), (7, .int 0), (6, .int r5), (5, .int y4), (0, .ref (ad 0)), (1, .int vr), (2, .int 1), (3, .int vh), (4, .int vp)] := hl
              have aw23 : w23.toInt = v9_148.toInt + 1 := by rw [← hw23]; exact tI_add (rfl : v9_148.toInt = _) (rfl : (1 : Int32).toInt = 1) (by omega) (by omega)
              refine lv_goto (tgt := 148) hx hb dX12_hadOn_194 (by decide) ?_
              exact ih148 (w23) xi19 _ _ _ (by omega) (by exact ⟨by omega, by omega⟩)  ok hP ez20 kp21 kp22 hS (lv_sub hl [0, 1, 2, 3, 4, 5, 6, 7, 8, 9] rfl)
            · have f10 : ¬ rb (0 : Int32) v9_148 = 1 := f10
              refine lv_if_eq (tgt := 191) hx hb dX12_hadOn_164 (by decide) (fun _ => ?_) (fun c => absurd (by decide) c)
              refine lv_iinc (v := (v9_148 + 1)) (lv' := [(9, .int (v9_148 + 1)), (8, .int 0), (7, .int 0), (6, .int r5), (5, .int y4), (0, .ref (ad 0)), (1, .int vr), (2, .int 1), (3, .int vh), (4, .int vp)]) hx hb dX12_hadOn_191 hl (k := 0) rfl rfl (by decide) rfl (fun ls hl => ?_)
              refine loc_gen (P := fun w9 => lv_has ls 10 [(9, .int w9), (8, .int 0), (7, .int 0), (6, .int r5), (5, .int y4), (0, .ref (ad 0)), (1, .int vr), (2, .int 1), (3, .int vh), (4, .int vp)]) (v9_148 + 1) hl (fun w24 hw24 hl => ?_)
              have hl : lv_has ls 10 [(9, .int w24), (8, .int 0), (7, .int 0), (6, .int r5), (5, .int y4), (0, .ref (ad 0)), (1, .int vr), (2, .int 1), (3, .int vh), (4, .int vp)] := hl
              have aw24 : w24.toInt = v9_148.toInt + 1 := by rw [← hw24]; exact tI_add (rfl : v9_148.toInt = _) (rfl : (1 : Int32).toInt = 1) (by omega) (by omega)
              refine lv_goto (tgt := 148) hx hb dX12_hadOn_194 (by decide) ?_
              exact ih148 (w24) nu148_ _ _ _ (by omega) (by exact ⟨by omega, by omega⟩)  ok hP ek148_0 kq148_0 kq148_1 hS (lv_sub hl [0, 1, 2, 3, 4, 5, 6, 7, 8, 9] rfl)
      exact loop148 ((7 + 1 - (0 : Int32).toInt).toNat + 1) (0) mu _ _ _ (Nat.lt_succ_self _) (by have h80 : (0 : Int32).toInt = 0 := rfl; exact ⟨by omega, by omega⟩)  ok hP ey1 (fun _ _ _ => rfl) (fun _ _ _ => rfl) hS hl
    · have c_7 : r5.toInt = r6.toInt := il_eq c_7
      refine lv_iload_n hx hb dX12_hadOn_101 rfl (lv_at hl 4 rfl) ?_
      refine lv_iconst (v := 1) hx hb dX12_hadOn_102 (by decide) ?_
      refine lv_icmp_eq (tgt := 117) hx hb dX12_hadOn_103 (by decide) (fun _ => ?_) (fun c => absurd (by decide) c)
      refine lv_iconst (v := 1) hx hb dX12_hadOn_117 (by decide) ?_
      refine lv_goto (tgt := 122) hx hb dX12_hadOn_118 (by decide) ?_
      refine lv_istore (lv' := [(7, .int 1), (6, .int r5), (5, .int y4), (0, .ref (ad 0)), (1, .int vr), (2, .int 1), (3, .int vh), (4, .int vp)]) hx hb dX12_hadOn_122 hl (by decide) rfl (fun ls hl => ?_)
      refine lv_iload hx hb dX12_hadOn_124 (lv_at hl 0 rfl) ?_
      refine lv_if_eq (tgt := 142) hx hb dX12_hadOn_126 (by decide) (fun c => absurd c (by decide)) (fun _ => ?_)
      refine lv_aload_n hx hb dX12_hadOn_129 rfl (lv_at hl 3 rfl) ?_
      refine lv_iload hx hb dX12_hadOn_130 (lv_at hl 2 rfl) ?_
      refine cr_i (va_runV (As := [.int y4]) (rest := []) ⟨hx, hb, hml, hown, hts⟩ (sm_besideOf l dC dI cs ad mu ok s.heap hP y4) (cwV 1 hts (wU_V mw_6_56 mw_6_53 mw_6_55 mw_0_40 mw_1_13) rfl rfl rfl (by decide +kernel) ⟨Nat.le_of_ble_eq_true rfl, Nat.le_of_ble_eq_true rfl⟩) ⟨sz_c, va_recv hK hP (ci := 12) (q0 := 0) rfl (gM_0 cs ad mu), sz_m hK hz⟩ rfl rfl hl.1 rfl (lv_room (Nat.le_of_ble_eq_true rfl)) dX12_hadOn_132 ⟨Nat.zero_le _, Nat.zero_le _⟩) hS (fun r25 hw25 locs hS => ?_)
      obtain ⟨hfe25, hw25⟩ := hw25
      refine lv_iload_n hx hb dX12_hadOn_135 rfl (lv_at hl 6 rfl) ?_
      refine lv_iconst (v := (-1)) hx hb dX12_hadOn_136 (by decide) ?_
      refine lv_ixor hx hb dX12_hadOn_137 ?_
      refine lv_topi (fun t26 et26 => ?_)
      refine lv_iand hx hb dX12_hadOn_138 ?_
      refine lv_topi (fun t27 et27 => ?_)
      refine lv_goto (tgt := 143) hx hb dX12_hadOn_139 (by decide) ?_
      refine lv_istore (lv' := [(8, .int t27), (7, .int 1), (6, .int r5), (5, .int y4), (0, .ref (ad 0)), (1, .int vr), (2, .int 1), (3, .int vh), (4, .int vp)]) hx hb dX12_hadOn_143 hl (by decide) rfl (fun ls hl => ?_)
      refine lv_iconst (v := 0) hx hb dX12_hadOn_145 (by decide) ?_
      refine lv_istore (lv' := [(9, .int 0), (8, .int t27), (7, .int 1), (6, .int r5), (5, .int y4), (0, .ref (ad 0)), (1, .int vr), (2, .int 1), (3, .int vh), (4, .int vp)]) hx hb dX12_hadOn_146 hl (by decide) rfl (fun ls hl => ?_)
      have loop148 : ∀ (n148 : Nat) (v9_148 : Int32) (nu148_ : Nat → Nat → Int32) (H : Heap) (locs : List Loc) (ls : Array Slot), (7 + 1 - v9_148.toInt).toNat < n148 → (0 ≤ v9_148.toInt ∧ v9_148.toInt ≤ 7) → okR loM hiM nu148_ → va_P (dC, dI) vwCl (wR 21 ad (EM cs ad) nu148_) H → y1 = nu148_ 2 vr.toNatClampNeg → (∀ k : Nat, 2 ≤ k → k < 3 → nu148_ k = mu k) → (∀ k f : Nat, Nat.testBit 510 (gpM k f) = true → nu148_ k f = mu k f) → va_S (va_A (wR 21 ad (EM cs ad) mu) s.heap.size) s.heap H locs → lv_has ls 10 [(9, .int v9_148), (8, .int t27), (7, .int 1), (6, .int r5), (5, .int y4), (0, .ref (ad 0)), (1, .int vr), (2, .int 1), (3, .int vh), (4, .int vp)] → W p l e (headSpec (wU yX12_hadOn cX12_hadOn 10 none) ({ frames := 7, cells := 0, slots := 0, locals := 197 })).room s m ([.ref (ad 0), .int vr, .int 1, .int vh, .int vp] : List Value).toArray below meth c H locs 0 0 (MQ below (va_Qv (fun (xi : Nat → Nat → Int32) => okR loM hiM xi ∧ (True) ∧ (∀ k : Nat, 2 ≤ k → k < 3 → xi k = mu k) ∧ (∀ k f : Nat, Nat.testBit 510 (gpM k f) = true → xi k f = mu k f)) (fun xi t => va_P (dC, dI) vwCl (wR 21 ad (EM cs ad) xi) t.heap) (va_A (wR 21 ad (EM cs ad) mu) s.heap.size)) ([.ref (ad 0), .int vr, .int 1, .int vh, .int vp] : List Value).toArray s 0 0 (va_A (wR 21 ad (EM cs ad) mu) s.heap.size)) (F0 m 148 ls []) := by
        intro n148
        induction n148 with
        | zero => intro v9_148 nu148_ H locs ls hm; exact absurd hm (Nat.not_lt_zero _)
        | succ n148 ih148 =>
          intro v9_148 nu148_ H locs ls hm h_v9_148 ok hP ek148_0 kq148_0 kq148_1 hS hl
          refine lv_iload hx hb dX12_hadOn_148 (lv_at hl 0 rfl) ?_
          refine lv_aload_n hx hb dX12_hadOn_150 rfl (lv_at hl 5 rfl) ?_
          refine va_get (D := (dC, dI)) (ci := 12) (v := .int (nu148_ 0 8)) (C := RX12) (T := TX12) (N := 46) hx hb hts inG12 hown hK hP 0 (gM_0 cs ad nu148_) rfl 8 (by decide) (hts _ (List.mem_cons_of_mem _ mw_5_49)) (fun _ h9 => h9) rfl dX12_hadOn_151 ?_
          refine lv_topi (fun y28 ey28 => ?_)
          have by28 : y28.toInt = (nu148_ 0 8).toInt := congrArg Int32.toInt ey28
          have gy28 : 0 ≤ y28.toInt ∧ y28.toInt ≤ 7 := by rw [ey28]; exact rM_0_8 ok
          refine lv_icmp_ge (tgt := 197) hx hb dX12_hadOn_154 (by decide) (fun c_29 => ?_) (fun c_29 => ?_)
          · have c_29 : y28.toInt ≤ v9_148.toInt := il_le c_29
            exact W.vret hx hb hr (fun t ht hW => ⟨⟨nu148_, rfl, ⟨ok, trivial, kq148_0, kq148_1⟩, by first | (subst ht; exact hP) | (rw [ht]; exact hP) | (show va_P (dC, dI) vwCl (wR 21 ad (EM cs ad) nu148_) t.heap; rw [ht]; exact hP)⟩, hS.F ht⟩) hS.2.2 dX12_hadOn_197
          · have c_29 : v9_148.toInt < y28.toInt := il_nle c_29
            refine lv_iload hx hb dX12_hadOn_157 (lv_at hl 1 rfl) ?_
            refine lv_iload hx hb dX12_hadOn_159 (lv_at hl 0 rfl) ?_
            refine cr_i (va_runS (As := [.int t27, .int v9_148]) (rest := []) ⟨hx, hb, hml, hown, hts⟩ (sm_has l dC dI (tyM cs) H t27 v9_148) (va_cwS 2 hts (wU_S mw_6_59 mw_6_57 mw_6_58 mw_1_13) rfl rfl rfl (by decide +kernel) ⟨Nat.le_of_ble_eq_true rfl, Nat.le_of_ble_eq_true rfl⟩) ⟨sz_c, sz_m hK hz⟩ rfl rfl hl.1 rfl (lv_room (Nat.le_of_ble_eq_true rfl)) dX12_hadOn_161 ⟨Nat.zero_le _, Nat.zero_le _⟩) hS (fun r30 hw30 locs hS => ?_)
            obtain ⟨hfe30, hw30⟩ := hw30
            rcases hw30 with ⟨rfl, f30⟩ | ⟨rfl, f30⟩
            · have f30 : rb t27 v9_148 = 1 := f30
              refine lv_if_eq (tgt := 191) hx hb dX12_hadOn_164 (by decide) (fun c => absurd c (by decide)) (fun _ => ?_)
              refine lv_aload_n hx hb dX12_hadOn_167 rfl (lv_at hl 5 rfl) ?_
              refine va_get (D := (dC, dI)) (ci := 12) (v := .ref (ad 16)) (C := RX12) (T := TX12) (N := 46) hx hb hts inG12 hown hK hP 0 (gM_0 cs ad nu148_) rfl 26 (by decide) (hts _ (List.mem_cons_of_mem _ mw_5_67)) (fun _ h9 => h9) rfl dX12_hadOn_168 ?_
              refine lv_iload_n hx hb dX12_hadOn_171 rfl (lv_at hl 7 rfl) ?_
              refine lv_iload hx hb dX12_hadOn_172 (lv_at hl 0 rfl) ?_
              refine va_iast hx hb hK hP (wR_D nu148_ hD) hS 16 0 (gM_16 cs ad nu148_) rfl (show vp_in 1 7 from (by unfold vp_in; decide)) dX12_hadOn_174 (fun H locs hP _ hS => ?_)
              refine wr_gen (upd (nu148_ 16) (1 : Int32).toNatClampNeg v9_148) hP (rfl) (fun nu31 hn31 hP => ?_)
              have ok := tM_16_s ok (1 : Int32).toNatClampNeg hn31 (by exact ⟨by omega, by omega⟩)
              have ez32 : y1 = nu31 2 vr.toNatClampNeg := ek148_0.trans (congrFun (up_k hn31 (by decide)) vr.toNatClampNeg).symm
              have ez33 : y28 = nu31 0 8 := ey28.trans (congrFun (up_k hn31 (by decide)) 8).symm
              have kp34 : ∀ k : Nat, 2 ≤ k → k < 3 → nu31 k = mu k := fun k h1 h2 => (up_k hn31 (ne_hi (by decide) h2).symm).trans (kq148_0 k h1 h2)
              have kp35 : (∀ k f : Nat, Nat.testBit 510 (gpM k f) = true → nu31 k f = mu k f) := kp_c 0 hn31 (fun _ => rfl) (by decide) kq148_1
              refine lv_aload_n hx hb dX12_hadOn_175 rfl (lv_at hl 5 rfl) ?_
              refine lv_iload_n hx hb dX12_hadOn_176 rfl (lv_at hl 6 rfl) ?_
              refine lv_iload_n hx hb dX12_hadOn_177 rfl (lv_at hl 7 rfl) ?_
              refine lv_iconst (v := 1) hx hb dX12_hadOn_178 (by decide) ?_
              refine lv_iadd hx hb dX12_hadOn_179 ?_
              refine lq_i 2 (by decide) ?_
              refine lv_iload_n hx hb dX12_hadOn_180 rfl (lv_at hl 8 rfl) ?_
              refine lv_iconst (v := 1) hx hb dX12_hadOn_181 (by decide) ?_
              refine lv_iload hx hb dX12_hadOn_182 (lv_at hl 0 rfl) ?_
              refine lv_ishl hx hb dX12_hadOn_184 ?_
              refine lv_topi (fun t36 et36 => ?_)
              refine lv_ior hx hb dX12_hadOn_185 ?_
              refine lv_topi (fun t37 et37 => ?_)
              refine lv_iload hx hb dX12_hadOn_186 (lv_at hl 3 rfl) ?_
              have hFc := fr_all (wR_D nu31 hD) hS hA
              refine va_callv (va_runV (As := [.int vr, .int 2, .int t37, .int r5]) (rest := []) ⟨hx, hb, hml, hown, hts⟩ (sm_hadOn2 l dC dI cs ad nu31 ok H hP ((wR_D nu31 hD).weaken (fun _ _ _ _ => trivial)) vr t37 r5 (by have h51 : (2 : Int32).toInt = 2 := rfl; omega) (by have h51 : (2 : Int32).toInt = 2 := rfl; have hb38 := congrArg Int32.toInt ez32; omega)) (cwV 4 hts (wU_V mw_7_24 mw_7_21 mw_7_23 mw_0_62 mw_1_13) rfl rfl rfl (by decide +kernel) ⟨Nat.le_of_ble_eq_true rfl, Nat.le_of_ble_eq_true rfl⟩) ⟨sz_c, va_recv hK hP (ci := 12) (q0 := 0) rfl (gM_0 cs ad nu31), sz_m hK hz⟩ rfl rfl hl.1 rfl (lv_room (Nat.le_of_ble_eq_true rfl)) dX12_hadOn_188 ⟨Nat.zero_le _, Nat.zero_le _⟩) hS (fun q _ h => hFc q h) hFc (fun xi39 t H39 locs ht hvm hw39 hB hz1 hk1 hS => ?_)
              have hP : va_P (dC, dI) vwCl (wR 21 ad (EM cs ad) xi39) H39 := by rw [← ht]; exact hB
              obtain ⟨ok, hw39, hkp39_0, hkp39_1⟩ := hw39
              have ez40 : y1 = xi39 2 vr.toNatClampNeg := ez32.trans (congrFun (hkp39_0 2 (by decide) (by decide)) vr.toNatClampNeg).symm
              have kp41 : ∀ k : Nat, 2 ≤ k → k < 3 → xi39 k = mu k := fun k h1 h2 => (hkp39_0 k (Nat.le_trans (by decide) h1) (Nat.lt_of_lt_of_le h2 (by decide))).trans (kp34 k h1 h2)
              have kp42 : (∀ k f : Nat, Nat.testBit 510 (gpM k f) = true → xi39 k f = mu k f) := kp_t hkp39_1 (by decide) kp35
              refine lv_iinc (v := (v9_148 + 1)) (lv' := [(9, .int (v9_148 + 1)), (8, .int t27), (7, .int 1), (6, .int r5), (5, .int y4), (0, .ref (ad 0)), (1, .int vr), (2, .int 1), (3, .int vh), (4, .int vp)]) hx hb dX12_hadOn_191 hl (k := 0) rfl rfl (by decide) rfl (fun ls hl => ?_)
              refine loc_gen (P := fun w9 => lv_has ls 10 [(9, .int w9), (8, .int t27), (7, .int 1), (6, .int r5), (5, .int y4), (0, .ref (ad 0)), (1, .int vr), (2, .int 1), (3, .int vh), (4, .int vp)]) (v9_148 + 1) hl (fun w43 hw43 hl => ?_)
              have hl : lv_has ls 10 [(9, .int w43), (8, .int t27), (7, .int 1), (6, .int r5), (5, .int y4), (0, .ref (ad 0)), (1, .int vr), (2, .int 1), (3, .int vh), (4, .int vp)] := hl
              have aw43 : w43.toInt = v9_148.toInt + 1 := by rw [← hw43]; exact tI_add (rfl : v9_148.toInt = _) (rfl : (1 : Int32).toInt = 1) (by omega) (by omega)
              refine lv_goto (tgt := 148) hx hb dX12_hadOn_194 (by decide) ?_
              exact ih148 (w43) xi39 _ _ _ (by omega) (by exact ⟨by omega, by omega⟩)  ok hP ez40 kp41 kp42 hS (lv_sub hl [0, 1, 2, 3, 4, 5, 6, 7, 8, 9] rfl)
            · have f30 : ¬ rb t27 v9_148 = 1 := f30
              refine lv_if_eq (tgt := 191) hx hb dX12_hadOn_164 (by decide) (fun _ => ?_) (fun c => absurd (by decide) c)
              refine lv_iinc (v := (v9_148 + 1)) (lv' := [(9, .int (v9_148 + 1)), (8, .int t27), (7, .int 1), (6, .int r5), (5, .int y4), (0, .ref (ad 0)), (1, .int vr), (2, .int 1), (3, .int vh), (4, .int vp)]) hx hb dX12_hadOn_191 hl (k := 0) rfl rfl (by decide) rfl (fun ls hl => ?_)
              refine loc_gen (P := fun w9 => lv_has ls 10 [(9, .int w9), (8, .int t27), (7, .int 1), (6, .int r5), (5, .int y4), (0, .ref (ad 0)), (1, .int vr), (2, .int 1), (3, .int vh), (4, .int vp)]) (v9_148 + 1) hl (fun w44 hw44 hl => ?_)
              have hl : lv_has ls 10 [(9, .int w44), (8, .int t27), (7, .int 1), (6, .int r5), (5, .int y4), (0, .ref (ad 0)), (1, .int vr), (2, .int 1), (3, .int vh), (4, .int vp)] := hl
              have aw44 : w44.toInt = v9_148.toInt + 1 := by rw [← hw44]; exact tI_add (rfl : v9_148.toInt = _) (rfl : (1 : Int32).toInt = 1) (by omega) (by omega)
              refine lv_goto (tgt := 148) hx hb dX12_hadOn_194 (by decide) ?_
              exact ih148 (w44) nu148_ _ _ _ (by omega) (by exact ⟨by omega, by omega⟩)  ok hP ek148_0 kq148_0 kq148_1 hS (lv_sub hl [0, 1, 2, 3, 4, 5, 6, 7, 8, 9] rfl)
      exact loop148 ((7 + 1 - (0 : Int32).toInt).toNat + 1) (0) mu _ _ _ (Nat.lt_succ_self _) (by have h80 : (0 : Int32).toInt = 0 := rfl; exact ⟨by omega, by omega⟩)  ok hP ey1 (fun _ _ _ => rfl) (fun _ _ _ => rfl) hS hl
  · have c_3 : 1 = t2.toInt := il_eq c_3
    refine lv_aload_n hx hb dX12_hadOn_12 rfl (lv_at hl 0 rfl) ?_
    refine va_get (D := (dC, dI)) (ci := 12) (v := .int (mu 0 42)) (C := RX12) (T := TX12) (N := 46) hx hb hts inG12 hown hK hP 0 (gM_0 cs ad mu) rfl 42 (by decide) (hts _ (List.mem_cons_of_mem _ mw_5_83)) (fun _ h9 => h9) rfl dX12_hadOn_13 ?_
    refine lv_topi (fun y45 ey45 => ?_)
    have by45 : y45.toInt = (mu 0 42).toInt := congrArg Int32.toInt ey45
    refine lv_if_ne (tgt := 28) hx hb dX12_hadOn_16 (by decide) (fun c_46 => ?_) (fun c_46 => ?_)
    · have c_46 : ¬ y45.toInt = 0 := il_ne c_46
      refine lv_aload_n hx hb dX12_hadOn_28 rfl (lv_at hl 0 rfl) ?_
      refine lv_dup hx hb dX12_hadOn_29 rfl ?_
      refine va_get (D := (dC, dI)) (ci := 12) (v := .int (mu 0 42)) (C := RX12) (T := TX12) (N := 46) hx hb hts inG12 hown hK hP 0 (gM_0 cs ad mu) rfl 42 (by decide) (hts _ (List.mem_cons_of_mem _ mw_5_83)) (fun _ h9 => h9) rfl dX12_hadOn_30 ?_
      refine lq_i y45 ey45.symm ?_
      refine lv_iconst (v := 1) hx hb dX12_hadOn_33 (by decide) ?_
      refine lv_iadd hx hb dX12_hadOn_34 ?_
      refine lv_topi (fun t47 et47 => ?_)
      refine va_put (D := (dC, dI)) (ci := 12) (v := .int t47) (ty := .int) (C := RX12) (T := TX12) (N := 46) hx hb hts inG12 tyX12 tyX12_ok nmX12 hown hK hP (wR_D mu hD) hS 0 (gM_0 cs ad mu) rfl 42 (by decide) (hts _ (List.mem_cons_of_mem _ mw_5_83)) (fun _ h9 => h9) rfl (by decide +kernel) rfl rfl (Nat.le_of_ble_eq_true rfl) dX12_hadOn_35 (fun H locs hP _ hS => ?_)
      simp only [List.set_cons_succ, List.set_cons_zero] at hP
      refine wr_gen (upd (mu 0) 42 t47) hP ((hM_0_42 cs ad _ _)) (fun nu48 hn48 hP => ?_)
      have ok := tM_0_42 ok hn48
      have ez49 : y1 = nu48 2 vr.toNatClampNeg := ey1.trans (congrFun (up_k hn48 (by decide)) vr.toNatClampNeg).symm
      have kp50 : ∀ k : Nat, 2 ≤ k → k < 3 → nu48 k = mu k := fun k h1 h2 => (up_k hn48 (ne_lo (by decide) h1).symm).trans ((fun _ _ _ => rfl) k h1 h2)
      have kp51 : (∀ k f : Nat, Nat.testBit 510 (gpM k f) = true → nu48 k f = mu k f) := kp_f hn48 (by decide) (fun _ _ _ => rfl)
      have ez52 : t47 = nu48 0 42 := up_v hn48
      refine lv_aload_n hx hb dX12_hadOn_38 rfl (lv_at hl 0 rfl) ?_
      refine lv_dup hx hb dX12_hadOn_39 rfl ?_
      refine va_get (D := (dC, dI)) (ci := 12) (v := .int (nu48 0 43)) (C := RX12) (T := TX12) (N := 46) hx hb hts inG12 hown hK hP 0 (gM_0 cs ad nu48) rfl 43 (by decide) (hts _ (List.mem_cons_of_mem _ mw_5_84)) (fun _ h9 => h9) rfl dX12_hadOn_40 ?_
      refine lv_topi (fun y53 ey53 => ?_)
      have by53 : y53.toInt = (nu48 0 43).toInt := congrArg Int32.toInt ey53
      refine lv_iconst (v := 1) hx hb dX12_hadOn_43 (by decide) ?_
      refine lv_aload_n hx hb dX12_hadOn_44 rfl (lv_at hl 0 rfl) ?_
      refine va_get (D := (dC, dI)) (ci := 12) (v := .ref (ad 16)) (C := RX12) (T := TX12) (N := 46) hx hb hts inG12 hown hK hP 0 (gM_0 cs ad nu48) rfl 26 (by decide) (hts _ (List.mem_cons_of_mem _ mw_5_67)) (fun _ h9 => h9) rfl dX12_hadOn_45 ?_
      refine lv_iload_n hx hb dX12_hadOn_48 rfl (lv_at hl 2 rfl) ?_
      refine lv_iconst (v := 1) hx hb dX12_hadOn_49 (by decide) ?_
      refine lv_isub hx hb dX12_hadOn_50 ?_
      refine lq_i 0 (by decide) ?_
      refine va_iald hx hb hK hP 16 0 (gM_16 cs ad nu48) rfl (show vp_in 0 7 from (by unfold vp_in; decide)) dX12_hadOn_51 ?_
      refine lv_topi (fun y54 ey54 => ?_)
      have by54 : y54.toInt = (nu48 16 (0 : Int32).toNatClampNeg).toInt := congrArg Int32.toInt ey54
      have gy54 : 0 ≤ y54.toInt ∧ y54.toInt ≤ 6 := by rw [ey54]; exact rM_16_s ok (0 : Int32).toNatClampNeg
      refine lv_ishl hx hb dX12_hadOn_52 ?_
      refine lv_topi (fun t55 et55 => ?_)
      refine lv_ior hx hb dX12_hadOn_53 ?_
      refine lv_topi (fun t56 et56 => ?_)
      refine va_put (D := (dC, dI)) (ci := 12) (v := .int t56) (ty := .int) (C := RX12) (T := TX12) (N := 46) hx hb hts inG12 tyX12 tyX12_ok nmX12 hown hK hP (wR_D nu48 hD) hS 0 (gM_0 cs ad nu48) rfl 43 (by decide) (hts _ (List.mem_cons_of_mem _ mw_5_84)) (fun _ h9 => h9) rfl (by decide +kernel) rfl rfl (Nat.le_of_ble_eq_true rfl) dX12_hadOn_54 (fun H locs hP _ hS => ?_)
      simp only [List.set_cons_succ, List.set_cons_zero] at hP
      refine wr_gen (upd (nu48 0) 43 t56) hP ((hM_0_43 cs ad _ _)) (fun nu57 hn57 hP => ?_)
      have ok := tM_0_43 ok hn57
      have ez58 : y1 = nu57 2 vr.toNatClampNeg := ez49.trans (congrFun (up_k hn57 (by decide)) vr.toNatClampNeg).symm
      have ez59 : t47 = nu57 0 42 := ez52.trans (up_f hn57 (by decide)).symm
      have ez60 : y54 = nu57 16 (0 : Int32).toNatClampNeg := ey54.trans (congrFun (up_k hn57 (by decide)) (0 : Int32).toNatClampNeg).symm
      have kp61 : ∀ k : Nat, 2 ≤ k → k < 3 → nu57 k = mu k := fun k h1 h2 => (up_k hn57 (ne_lo (by decide) h1).symm).trans (kp50 k h1 h2)
      have kp62 : (∀ k f : Nat, Nat.testBit 510 (gpM k f) = true → nu57 k f = mu k f) := kp_f hn57 (by decide) kp51
      have ez63 : t56 = nu57 0 43 := up_v hn57
      refine lv_aload_n hx hb dX12_hadOn_57 rfl (lv_at hl 0 rfl) ?_
      refine lv_dup hx hb dX12_hadOn_58 rfl ?_
      refine va_get (D := (dC, dI)) (ci := 12) (v := .int (nu57 0 44)) (C := RX12) (T := TX12) (N := 46) hx hb hts inG12 hown hK hP 0 (gM_0 cs ad nu57) rfl 44 (by decide) (hts _ (List.mem_cons_of_mem _ mw_5_85)) (fun _ h9 => h9) rfl dX12_hadOn_59 ?_
      refine lv_topi (fun y64 ey64 => ?_)
      have by64 : y64.toInt = (nu57 0 44).toInt := congrArg Int32.toInt ey64
      refine lv_iload_n hx hb dX12_hadOn_62 rfl (lv_at hl 3 rfl) ?_
      refine lv_iand hx hb dX12_hadOn_63 ?_
      refine lv_topi (fun t65 et65 => ?_)
      refine va_put (D := (dC, dI)) (ci := 12) (v := .int t65) (ty := .int) (C := RX12) (T := TX12) (N := 46) hx hb hts inG12 tyX12 tyX12_ok nmX12 hown hK hP (wR_D nu57 hD) hS 0 (gM_0 cs ad nu57) rfl 44 (by decide) (hts _ (List.mem_cons_of_mem _ mw_5_85)) (fun _ h9 => h9) rfl (by decide +kernel) rfl rfl (Nat.le_of_ble_eq_true rfl) dX12_hadOn_64 (fun H locs hP _ hS => ?_)
      simp only [List.set_cons_succ, List.set_cons_zero] at hP
      refine wr_gen (upd (nu57 0) 44 t65) hP ((hM_0_44 cs ad _ _)) (fun nu66 hn66 hP => ?_)
      have ok := tM_0_44 ok hn66
      have ez67 : y1 = nu66 2 vr.toNatClampNeg := ez58.trans (congrFun (up_k hn66 (by decide)) vr.toNatClampNeg).symm
      have ez68 : t47 = nu66 0 42 := ez59.trans (up_f hn66 (by decide)).symm
      have ez69 : y54 = nu66 16 (0 : Int32).toNatClampNeg := ez60.trans (congrFun (up_k hn66 (by decide)) (0 : Int32).toNatClampNeg).symm
      have ez70 : t56 = nu66 0 43 := ez63.trans (up_f hn66 (by decide)).symm
      have kp71 : ∀ k : Nat, 2 ≤ k → k < 3 → nu66 k = mu k := fun k h1 h2 => (up_k hn66 (ne_lo (by decide) h1).symm).trans (kp61 k h1 h2)
      have kp72 : (∀ k f : Nat, Nat.testBit 510 (gpM k f) = true → nu66 k f = mu k f) := kp_f hn66 (by decide) kp62
      have ez73 : t65 = nu66 0 44 := up_v hn66
      exact W.vret hx hb hr (fun t ht hW => ⟨⟨nu66, rfl, ⟨ok, trivial, kp71, kp72⟩, by first | (subst ht; exact hP) | (rw [ht]; exact hP) | (show va_P (dC, dI) vwCl (wR 21 ad (EM cs ad) nu66) t.heap; rw [ht]; exact hP)⟩, hS.F ht⟩) hS.2.2 dX12_hadOn_67
    · have c_46 : y45.toInt = 0 := il_eq c_46
      refine lv_aload_n hx hb dX12_hadOn_19 rfl (lv_at hl 0 rfl) ?_
      refine lv_aload_n hx hb dX12_hadOn_20 rfl (lv_at hl 0 rfl) ?_
      refine va_get (D := (dC, dI)) (ci := 12) (v := .ref (ad 17)) (C := RX12) (T := TX12) (N := 46) hx hb hts inG12 hown hK hP 0 (gM_0 cs ad mu) rfl 27 (by decide) (hts _ (List.mem_cons_of_mem _ mw_5_68)) (fun _ h9 => h9) rfl dX12_hadOn_21 ?_
      refine lv_iload_n hx hb dX12_hadOn_24 rfl (lv_at hl 2 rfl) ?_
      have hFc := fr_all (wR_D mu hD) hS hA
      refine va_callv (va_runV (As := [.ref (ad 17), .int 1]) (rest := []) ⟨hx, hb, hml, hown, hts⟩ (sm_copyRoute17 l dC dI cs ad mu ok s.heap hP ((wR_D mu hD).weaken (fun _ _ _ _ => trivial)) 1 (by have h51 : (1 : Int32).toInt = 1 := rfl; omega)) (cwV 2 hts (wU_V mw_6_191 mw_6_188 mw_6_190 mw_0_57 mw_1_13) rfl rfl rfl (by decide +kernel) ⟨Nat.le_of_ble_eq_true rfl, Nat.le_of_ble_eq_true rfl⟩) ⟨sz_c, va_recv hK hP (ci := 12) (q0 := 0) rfl (gM_0 cs ad mu), sz_m hK hz⟩ rfl rfl hl.1 rfl (lv_room (Nat.le_of_ble_eq_true rfl)) dX12_hadOn_25 ⟨Nat.zero_le _, Nat.zero_le _⟩) hS (fun q _ h => hFc q h) hFc (fun xi74 t H74 locs ht hvm hw74 hB hz1 hk1 hS => ?_)
      have hP : va_P (dC, dI) vwCl (wR 21 ad (EM cs ad) xi74) H74 := by rw [← ht]; exact hB
      obtain ⟨ok, hw74, hkp74_0, hkp74_1⟩ := hw74
      have ez75 : y1 = xi74 2 vr.toNatClampNeg := ey1.trans (congrFun (hkp74_0 2 (by decide) (by decide)) vr.toNatClampNeg).symm
      have ez76 : y45 = xi74 0 42 := ey45.trans (congrFun (hkp74_0 0 (by decide) (by decide)) 42).symm
      have kp77 : ∀ k : Nat, 2 ≤ k → k < 3 → xi74 k = mu k := fun k h1 h2 => (hkp74_0 k (Nat.le_trans (by decide) h1) (Nat.lt_of_lt_of_le h2 (by decide))).trans ((fun _ _ _ => rfl) k h1 h2)
      have kp78 : (∀ k f : Nat, Nat.testBit 510 (gpM k f) = true → xi74 k f = mu k f) := kp_t hkp74_1 (by decide) (fun _ _ _ => rfl)
      refine lv_aload_n hx hb dX12_hadOn_28 rfl (lv_at hl 0 rfl) ?_
      refine lv_dup hx hb dX12_hadOn_29 rfl ?_
      refine va_get (D := (dC, dI)) (ci := 12) (v := .int (xi74 0 42)) (C := RX12) (T := TX12) (N := 46) hx hb hts inG12 hown hK hP 0 (gM_0 cs ad xi74) rfl 42 (by decide) (hts _ (List.mem_cons_of_mem _ mw_5_83)) (fun _ h9 => h9) rfl dX12_hadOn_30 ?_
      refine lq_i y45 ez76.symm ?_
      refine lv_iconst (v := 1) hx hb dX12_hadOn_33 (by decide) ?_
      refine lv_iadd hx hb dX12_hadOn_34 ?_
      refine lv_topi (fun t79 et79 => ?_)
      have at79 : t79.toInt = y45.toInt + 1 := by rw [et79]; exact tI_add (rfl : y45.toInt = _) (rfl : (1 : Int32).toInt = 1) (by omega) (by omega)
      refine va_put (D := (dC, dI)) (ci := 12) (v := .int t79) (ty := .int) (C := RX12) (T := TX12) (N := 46) hx hb hts inG12 tyX12 tyX12_ok nmX12 hown hK hP (wR_D xi74 hD) hS 0 (gM_0 cs ad xi74) rfl 42 (by decide) (hts _ (List.mem_cons_of_mem _ mw_5_83)) (fun _ h9 => h9) rfl (by decide +kernel) rfl rfl (Nat.le_of_ble_eq_true rfl) dX12_hadOn_35 (fun H locs hP _ hS => ?_)
      simp only [List.set_cons_succ, List.set_cons_zero] at hP
      refine wr_gen (upd (xi74 0) 42 t79) hP ((hM_0_42 cs ad _ _)) (fun nu80 hn80 hP => ?_)
      have ok := tM_0_42 ok hn80
      have ez81 : y1 = nu80 2 vr.toNatClampNeg := ez75.trans (congrFun (up_k hn80 (by decide)) vr.toNatClampNeg).symm
      have kp82 : ∀ k : Nat, 2 ≤ k → k < 3 → nu80 k = mu k := fun k h1 h2 => (up_k hn80 (ne_lo (by decide) h1).symm).trans (kp77 k h1 h2)
      have kp83 : (∀ k f : Nat, Nat.testBit 510 (gpM k f) = true → nu80 k f = mu k f) := kp_f hn80 (by decide) kp78
      have ez84 : t79 = nu80 0 42 := up_v hn80
      refine lv_aload_n hx hb dX12_hadOn_38 rfl (lv_at hl 0 rfl) ?_
      refine lv_dup hx hb dX12_hadOn_39 rfl ?_
      refine va_get (D := (dC, dI)) (ci := 12) (v := .int (nu80 0 43)) (C := RX12) (T := TX12) (N := 46) hx hb hts inG12 hown hK hP 0 (gM_0 cs ad nu80) rfl 43 (by decide) (hts _ (List.mem_cons_of_mem _ mw_5_84)) (fun _ h9 => h9) rfl dX12_hadOn_40 ?_
      refine lv_topi (fun y85 ey85 => ?_)
      have by85 : y85.toInt = (nu80 0 43).toInt := congrArg Int32.toInt ey85
      refine lv_iconst (v := 1) hx hb dX12_hadOn_43 (by decide) ?_
      refine lv_aload_n hx hb dX12_hadOn_44 rfl (lv_at hl 0 rfl) ?_
      refine va_get (D := (dC, dI)) (ci := 12) (v := .ref (ad 16)) (C := RX12) (T := TX12) (N := 46) hx hb hts inG12 hown hK hP 0 (gM_0 cs ad nu80) rfl 26 (by decide) (hts _ (List.mem_cons_of_mem _ mw_5_67)) (fun _ h9 => h9) rfl dX12_hadOn_45 ?_
      refine lv_iload_n hx hb dX12_hadOn_48 rfl (lv_at hl 2 rfl) ?_
      refine lv_iconst (v := 1) hx hb dX12_hadOn_49 (by decide) ?_
      refine lv_isub hx hb dX12_hadOn_50 ?_
      refine lq_i 0 (by decide) ?_
      refine va_iald hx hb hK hP 16 0 (gM_16 cs ad nu80) rfl (show vp_in 0 7 from (by unfold vp_in; decide)) dX12_hadOn_51 ?_
      refine lv_topi (fun y86 ey86 => ?_)
      have by86 : y86.toInt = (nu80 16 (0 : Int32).toNatClampNeg).toInt := congrArg Int32.toInt ey86
      have gy86 : 0 ≤ y86.toInt ∧ y86.toInt ≤ 6 := by rw [ey86]; exact rM_16_s ok (0 : Int32).toNatClampNeg
      refine lv_ishl hx hb dX12_hadOn_52 ?_
      refine lv_topi (fun t87 et87 => ?_)
      refine lv_ior hx hb dX12_hadOn_53 ?_
      refine lv_topi (fun t88 et88 => ?_)
      refine va_put (D := (dC, dI)) (ci := 12) (v := .int t88) (ty := .int) (C := RX12) (T := TX12) (N := 46) hx hb hts inG12 tyX12 tyX12_ok nmX12 hown hK hP (wR_D nu80 hD) hS 0 (gM_0 cs ad nu80) rfl 43 (by decide) (hts _ (List.mem_cons_of_mem _ mw_5_84)) (fun _ h9 => h9) rfl (by decide +kernel) rfl rfl (Nat.le_of_ble_eq_true rfl) dX12_hadOn_54 (fun H locs hP _ hS => ?_)
      simp only [List.set_cons_succ, List.set_cons_zero] at hP
      refine wr_gen (upd (nu80 0) 43 t88) hP ((hM_0_43 cs ad _ _)) (fun nu89 hn89 hP => ?_)
      have ok := tM_0_43 ok hn89
      have ez90 : y1 = nu89 2 vr.toNatClampNeg := ez81.trans (congrFun (up_k hn89 (by decide)) vr.toNatClampNeg).symm
      have ez91 : t79 = nu89 0 42 := ez84.trans (up_f hn89 (by decide)).symm
      have ez92 : y86 = nu89 16 (0 : Int32).toNatClampNeg := ey86.trans (congrFun (up_k hn89 (by decide)) (0 : Int32).toNatClampNeg).symm
      have kp93 : ∀ k : Nat, 2 ≤ k → k < 3 → nu89 k = mu k := fun k h1 h2 => (up_k hn89 (ne_lo (by decide) h1).symm).trans (kp82 k h1 h2)
      have kp94 : (∀ k f : Nat, Nat.testBit 510 (gpM k f) = true → nu89 k f = mu k f) := kp_f hn89 (by decide) kp83
      have ez95 : t88 = nu89 0 43 := up_v hn89
      refine lv_aload_n hx hb dX12_hadOn_57 rfl (lv_at hl 0 rfl) ?_
      refine lv_dup hx hb dX12_hadOn_58 rfl ?_
      refine va_get (D := (dC, dI)) (ci := 12) (v := .int (nu89 0 44)) (C := RX12) (T := TX12) (N := 46) hx hb hts inG12 hown hK hP 0 (gM_0 cs ad nu89) rfl 44 (by decide) (hts _ (List.mem_cons_of_mem _ mw_5_85)) (fun _ h9 => h9) rfl dX12_hadOn_59 ?_
      refine lv_topi (fun y96 ey96 => ?_)
      have by96 : y96.toInt = (nu89 0 44).toInt := congrArg Int32.toInt ey96
      refine lv_iload_n hx hb dX12_hadOn_62 rfl (lv_at hl 3 rfl) ?_
      refine lv_iand hx hb dX12_hadOn_63 ?_
      refine lv_topi (fun t97 et97 => ?_)
      refine va_put (D := (dC, dI)) (ci := 12) (v := .int t97) (ty := .int) (C := RX12) (T := TX12) (N := 46) hx hb hts inG12 tyX12 tyX12_ok nmX12 hown hK hP (wR_D nu89 hD) hS 0 (gM_0 cs ad nu89) rfl 44 (by decide) (hts _ (List.mem_cons_of_mem _ mw_5_85)) (fun _ h9 => h9) rfl (by decide +kernel) rfl rfl (Nat.le_of_ble_eq_true rfl) dX12_hadOn_64 (fun H locs hP _ hS => ?_)
      simp only [List.set_cons_succ, List.set_cons_zero] at hP
      refine wr_gen (upd (nu89 0) 44 t97) hP ((hM_0_44 cs ad _ _)) (fun nu98 hn98 hP => ?_)
      have ok := tM_0_44 ok hn98
      have ez99 : y1 = nu98 2 vr.toNatClampNeg := ez90.trans (congrFun (up_k hn98 (by decide)) vr.toNatClampNeg).symm
      have ez100 : t79 = nu98 0 42 := ez91.trans (up_f hn98 (by decide)).symm
      have ez101 : y86 = nu98 16 (0 : Int32).toNatClampNeg := ez92.trans (congrFun (up_k hn98 (by decide)) (0 : Int32).toNatClampNeg).symm
      have ez102 : t88 = nu98 0 43 := ez95.trans (up_f hn98 (by decide)).symm
      have kp103 : ∀ k : Nat, 2 ≤ k → k < 3 → nu98 k = mu k := fun k h1 h2 => (up_k hn98 (ne_lo (by decide) h1).symm).trans (kp93 k h1 h2)
      have kp104 : (∀ k f : Nat, Nat.testBit 510 (gpM k f) = true → nu98 k f = mu k f) := kp_f hn98 (by decide) kp94
      have ez105 : t97 = nu98 0 44 := up_v hn98
      exact W.vret hx hb hr (fun t ht hW => ⟨⟨nu98, rfl, ⟨ok, trivial, kp103, kp104⟩, by first | (subst ht; exact hP) | (rw [ht]; exact hP) | (show va_P (dC, dI) vwCl (wR 21 ad (EM cs ad) nu98) t.heap; rw [ht]; exact hP)⟩, hS.F ht⟩) hS.2.2 dX12_hadOn_67
