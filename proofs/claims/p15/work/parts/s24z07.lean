set_option maxHeartbeats 4000000 in
set_option maxRecDepth 100000 in
/-- qx_block -/
theorem qx_block (l : Launch) (dC : Nat → ClassId) (dI : Nat → Nat → Nat) (cs : Nat → ClassId) (ad : Nat → Nat) (mu : Nat → Nat → Int32) (ok : okR loX hiX mu) (H : Heap) (hP : va_P (dC, dI) vwCl (wR 157 ad (EX cs ad) mu) H) (hD0 : va_D (fun _ => True) (wR 157 ad (EX cs ad) mu)) (vk : Int32) : Met l yX11_block (wU yX11_block cX11_block 6 (some .int)) ({ frames := 10, cells := 0, slots := 0, locals := 262 }) (va_Pc [.ref (ad 0), .int vk] (sz_P (dC, dI) vwCl (tyW cs) H)) (va_Qi (fun (z : Int32) (xi : Nat → Nat → Int32) => okR loX hiX xi ∧ (True) ∧ (∀ k f : Nat, Nat.testBit 510 (gpX k f) = true → xi k f = mu k f)) (fun xi t => va_P (dC, dI) vwCl (wR 157 ad (EX cs ad) xi) t.heap) (va_A (wR 157 ad (EX cs ad) mu) H.size)) 0 0 (va_A (wR 157 ad (EX cs ad) mu) H.size) := by
  refine Met.ofW (cc := cX11_block) (maxL := 6) (ret := (some .int)) (by decide) rfl ?_
  intro p e s m args below meth c s₁ B hml hv
  obtain ⟨rfl, hh, hK, hz⟩ := hv
  have hx := B.exec
  have hb := B.bytes
  have hr := B.returns
  have hts := atoms_spec (ws := (wU yX11_block cX11_block 6 (some .int))) B.pre
  have hown : s.vm.findClass RX11 = some m.cls := findClass_of_methodNamed B.named
  have hlocks := B.notSynchronized
  subst hh
  have hD := hD0.self (sz := s.heap.size)
  have hA : ∀ q : Nat, s.heap.size ≤ q → (va_A (wR 157 ad (EX cs ad) mu) s.heap.size) q := fun q h => Or.inr h
  have hS : va_S (va_A (wR 157 ad (EX cs ad) mu) s.heap.size) s.heap s.heap [] := va_S.rf
  have hl := lv_entry ([.ref (ad 0), .int vk]) (n := 6) (Nat.le_of_ble_eq_true rfl)
  rw [lg_entry_eq]
  generalize (lg_sl ([.ref (ad 0), .int vk]) ++ List.replicate (6 - (lg_sl ([.ref (ad 0), .int vk])).length) Slot.unset).toArray = ls at hl ⊢
  have hl : lv_has ls 6 [(0, .ref (ad 0)), (1, .int vk)] := hl
  refine lv_aload_n hx hb dX11_block_0 rfl (lv_at hl 0 rfl) ?_
  refine lv_iload_n hx hb dX11_block_1 rfl (lv_at hl 1 rfl) ?_
  refine lv_iconst (v := 0) hx hb dX11_block_2 (by decide) ?_
  have hFc := fr_all (wR_D mu hD) hS hA
  refine va_calli (va_runV (As := [.int vk, .int 0]) (rest := []) ⟨hx, hb, hml, hown, hts⟩ (sx_refusedRoute l dC dI cs ad mu ok s.heap hP ((wR_D mu hD).weaken (fun _ _ _ _ => trivial)) vk 0) (cwV 2 hts (wU_V mw_4_1 mw_3_238 mw_4_0 mw_0_9 mw_1_1) rfl rfl rfl (by decide +kernel) ⟨Nat.le_of_ble_eq_true rfl, Nat.le_of_ble_eq_true rfl⟩) ⟨sz_c, va_recv hK hP (ci := 11) (q0 := 0) rfl (gX_0 cs ad mu), sz_m hK hz⟩ rfl rfl hl.1 rfl (lv_room (Nat.le_of_ble_eq_true rfl)) dX11_block_3 ⟨Nat.zero_le _, Nat.zero_le _⟩) hS (fun q _ h => hFc q h) hFc (fun r1 xi1 t H1 locs ht hvm hw1 hB hz1 hk1 hS => ?_)
  have hP : va_P (dC, dI) vwCl (wR 157 ad (EX cs ad) xi1) H1 := by rw [← ht]; exact hB
  rcases hw1 with ⟨rfl, hxi1, f1⟩ | ⟨z1, ok, hkp1_0⟩
  · have hP : va_P (dC, dI) vwCl (wR 157 ad (EX cs ad) mu) H1 := by rw [← hxi1]; exact hP
    have f1 : 0 ≤ vk.toInt ∧ vk.toInt < (mu 5 4).toInt ∧ (mu 5 4).toInt ≤ 4 ∧ (0 : Int) = 0 := f1
    refine lv_istore_n (lv' := [(2, .int 0), (0, .ref (ad 0)), (1, .int vk)]) hx hb dX11_block_6 rfl hl (by decide) rfl (fun ls hl => ?_)
    refine lv_iload_n hx hb dX11_block_7 rfl (lv_at hl 0 rfl) ?_
    refine lv_if_eq (tgt := 13) hx hb dX11_block_8 (by decide) (fun _ => ?_) (fun c => absurd (by decide) c)
    refine lv_aload_n hx hb dX11_block_13 rfl (lv_at hl 1 rfl) ?_
    refine va_get (D := (dC, dI)) (ci := 11) (v := .ref (ad 32)) (C := RX11) (T := TX11) (N := 11) hx hb hts inG11 hown hK hP 0 (gX_0 cs ad mu) rfl 6 (by decide) (hts _ (List.mem_cons_of_mem _ mw_2_164)) (fun _ h9 => h9) rfl dX11_block_14 ?_
    refine lv_aload_n hx hb dX11_block_17 rfl (lv_at hl 1 rfl) ?_
    refine va_get (D := (dC, dI)) (ci := 11) (v := .ref (ad 4)) (C := RX11) (T := TX11) (N := 11) hx hb hts inG11 hown hK hP 0 (gX_0 cs ad mu) rfl 3 (by decide) (hts _ (List.mem_cons_of_mem _ mw_2_161)) (fun _ h9 => h9) rfl dX11_block_18 ?_
    refine lv_aload_n hx hb dX11_block_21 rfl (lv_at hl 1 rfl) ?_
    refine va_get (D := (dC, dI)) (ci := 11) (v := .ref (ad 4)) (C := RX11) (T := TX11) (N := 11) hx hb hts inG11 hown hK hP 0 (gX_0 cs ad mu) rfl 3 (by decide) (hts _ (List.mem_cons_of_mem _ mw_2_161)) (fun _ h9 => h9) rfl dX11_block_22 ?_
    refine va_get (D := (dC, dI)) (ci := 10) (v := .ref (ad 5)) (C := RX10) (T := TX10) (N := 8) hx hb hts inG10 hown hK hP 4 (gX_4 cs ad mu) rfl 3 (by decide) (hts _ (List.mem_cons_of_mem _ mw_1_157)) (fun _ h9 => h9) rfl dX11_block_25 ?_
    refine va_get (D := (dC, dI)) (ci := 8) (v := .ref (ad 47)) (C := RX8) (T := TX8) (N := 6) hx hb hts inG8 hown hK hP 5 (gX_5 cs ad mu) rfl 1 (by decide) (hts _ (List.mem_cons_of_mem _ mw_1_112)) (fun _ h9 => h9) rfl dX11_block_28 ?_
    refine lv_iload_n hx hb dX11_block_31 rfl (lv_at hl 2 rfl) ?_
    have hx3 : 0 ≤ vk.toInt ∧ vk.toInt < ((4 : Nat) : Int) := ⟨by omega, by omega⟩
    refine va_aldq hx hb hK hP 47 5 (gX_47 cs ad mu) rfl (show vp_in vk 4 from vi_of hx3.1 hx3.2) dX11_block_32 ?_
    have hk3 : 61 ≤ (61 + vk.toNatClampNeg) ∧ (61 + vk.toNatClampNeg) < 65 := ix_of hx3
    have hk3 : 61 ≤ (61 + vk.toNatClampNeg) ∧ (61 + vk.toNatClampNeg) < 77 := ⟨Nat.le_trans (by decide) hk3.1, Nat.lt_of_lt_of_le hk3.2 (by decide)⟩
    refine lq_v (.ref (ad (61 + vk.toNatClampNeg))) rfl ?_
    have hFc := fr_all (wR_D mu hD) hS hA
    refine va_callv (va_runV (As := [.ref (ad 4), .ref (ad (61 + vk.toNatClampNeg))]) (rest := []) ⟨hx, hb, hml, hown, hts⟩ (sx_lookAt l dC dI cs ad mu ok H1 hP ((wR_D mu hD).weaken (fun _ _ _ _ => trivial)) (61 + vk.toNatClampNeg) hk3.1 hk3.2) (cwV 2 hts (wU_V mw_4_9 mw_4_85 mw_4_7 mw_4_8 mw_1_8) rfl rfl rfl (by decide +kernel) ⟨Nat.le_of_ble_eq_true rfl, Nat.le_of_ble_eq_true rfl⟩) ⟨sz_c, va_recv hK hP (ci := 5) (q0 := 32) rfl (gX_32 cs ad mu), sz_m hK hz⟩ rfl rfl hl.1 rfl (lv_room (Nat.le_of_ble_eq_true rfl)) dX11_block_33 ⟨Nat.zero_le _, Nat.zero_le _⟩) hS (fun q _ h => hFc q h) hFc (fun xi4 t H4 locs ht hvm hw4 hB hz1 hk1 hS => ?_)
    have hP : va_P (dC, dI) vwCl (wR 157 ad (EX cs ad) xi4) H4 := by rw [← ht]; exact hB
    obtain ⟨ok, hw4, hkp4_0⟩ := hw4
    have kp5 : (∀ k f : Nat, Nat.testBit 510 (gpX k f) = true → xi4 k f = mu k f) := kp_t hkp4_0 (by decide) (fun _ _ _ => rfl)
    refine lv_iconst (v := 1) hx hb dX11_block_36 (by decide) ?_
    refine lv_aload_n hx hb dX11_block_37 rfl (lv_at hl 1 rfl) ?_
    refine va_get (D := (dC, dI)) (ci := 11) (v := .ref (ad 4)) (C := RX11) (T := TX11) (N := 11) hx hb hts inG11 hown hK hP 0 (gX_0 cs ad xi4) rfl 3 (by decide) (hts _ (List.mem_cons_of_mem _ mw_2_161)) (fun _ h9 => h9) rfl dX11_block_38 ?_
    refine va_get (D := (dC, dI)) (ci := 10) (v := .int (xi4 4 7)) (C := RX10) (T := TX10) (N := 8) hx hb hts inG10 hown hK hP 4 (gX_4 cs ad xi4) rfl 7 (by decide) (hts _ (List.mem_cons_of_mem _ mw_1_167)) (fun _ h9 => h9) rfl dX11_block_41 ?_
    refine lv_topi (fun y6 ey6 => ?_)
    have by6 : y6.toInt = (xi4 4 7).toInt := congrArg Int32.toInt ey6
    have gy6 : 0 ≤ y6.toInt ∧ y6.toInt ≤ 12 := by rw [ey6]; exact rX_4_7 ok
    refine lv_ishl hx hb dX11_block_44 ?_
    refine lv_topi (fun t7 et7 => ?_)
    refine lv_iconst (v := 1) hx hb dX11_block_45 (by decide) ?_
    refine lv_isub hx hb dX11_block_46 ?_
    refine lv_topi (fun t8 et8 => ?_)
    refine lv_aload_n hx hb dX11_block_47 rfl (lv_at hl 1 rfl) ?_
    refine va_get (D := (dC, dI)) (ci := 11) (v := .ref (ad 4)) (C := RX11) (T := TX11) (N := 11) hx hb hts inG11 hown hK hP 0 (gX_0 cs ad xi4) rfl 3 (by decide) (hts _ (List.mem_cons_of_mem _ mw_2_161)) (fun _ h9 => h9) rfl dX11_block_48 ?_
    refine va_get (D := (dC, dI)) (ci := 10) (v := .ref (ad 5)) (C := RX10) (T := TX10) (N := 8) hx hb hts inG10 hown hK hP 4 (gX_4 cs ad xi4) rfl 3 (by decide) (hts _ (List.mem_cons_of_mem _ mw_1_157)) (fun _ h9 => h9) rfl dX11_block_51 ?_
    refine va_get (D := (dC, dI)) (ci := 8) (v := .int (xi4 5 2)) (C := RX8) (T := TX8) (N := 6) hx hb hts inG8 hown hK hP 5 (gX_5 cs ad xi4) rfl 2 (by decide) (hts _ (List.mem_cons_of_mem _ mw_1_118)) (fun _ h9 => h9) rfl dX11_block_54 ?_
    refine lv_topi (fun y9 ey9 => ?_)
    have by9 : y9.toInt = (xi4 5 2).toInt := congrArg Int32.toInt ey9
    refine lv_iconst (v := (-1)) hx hb dX11_block_57 (by decide) ?_
    refine lv_ixor hx hb dX11_block_58 ?_
    refine lv_topi (fun t10 et10 => ?_)
    refine lv_iand hx hb dX11_block_59 ?_
    refine lv_topi (fun t11 et11 => ?_)
    refine lv_istore_n (lv' := [(3, .int t11), (2, .int 0), (0, .ref (ad 0)), (1, .int vk)]) hx hb dX11_block_60 rfl hl (by decide) rfl (fun ls hl => ?_)
    refine lv_iconst (v := 0) hx hb dX11_block_61 (by decide) ?_
    refine lv_istore (lv' := [(4, .int 0), (3, .int t11), (2, .int 0), (0, .ref (ad 0)), (1, .int vk)]) hx hb dX11_block_62 hl (by decide) rfl (fun ls hl => ?_)
    have loop64 : ∀ (n64 : Nat) (v4_64 : Int32) (nu64_ : Nat → Nat → Int32) (H : Heap) (locs : List Loc) (ls : Array Slot), (13 + 1 - v4_64.toInt).toNat < n64 → (0 ≤ v4_64.toInt ∧ v4_64.toInt ≤ 13) → okR loX hiX nu64_ → va_P (dC, dI) vwCl (wR 157 ad (EX cs ad) nu64_) H → (∀ k f : Nat, Nat.testBit 510 (gpX k f) = true → nu64_ k f = mu k f) → va_S (va_A (wR 157 ad (EX cs ad) mu) s.heap.size) s.heap H locs → lv_has ls 6 [(4, .int v4_64), (3, .int t11), (2, .int 0), (0, .ref (ad 0)), (1, .int vk)] → W p l e (headSpec (wU yX11_block cX11_block 6 (some .int)) ({ frames := 10, cells := 0, slots := 0, locals := 262 })).room s m ([.ref (ad 0), .int vk] : List Value).toArray below meth c H locs 0 0 (MQ below (va_Qi (fun (z : Int32) (xi : Nat → Nat → Int32) => okR loX hiX xi ∧ (True) ∧ (∀ k f : Nat, Nat.testBit 510 (gpX k f) = true → xi k f = mu k f)) (fun xi t => va_P (dC, dI) vwCl (wR 157 ad (EX cs ad) xi) t.heap) (va_A (wR 157 ad (EX cs ad) mu) s.heap.size)) ([.ref (ad 0), .int vk] : List Value).toArray s 0 0 (va_A (wR 157 ad (EX cs ad) mu) s.heap.size)) (F0 m 64 ls []) := by
      intro n64
      induction n64 with
      | zero => intro v4_64 nu64_ H locs ls hm; exact absurd hm (Nat.not_lt_zero _)
      | succ n64 ih64 =>
        intro v4_64 nu64_ H locs ls hm h_v4_64 ok hP kq64_0 hS hl
        refine lv_iload hx hb dX11_block_64 (lv_at hl 0 rfl) ?_
        refine lv_aload_n hx hb dX11_block_66 rfl (lv_at hl 3 rfl) ?_
        refine va_get (D := (dC, dI)) (ci := 11) (v := .ref (ad 4)) (C := RX11) (T := TX11) (N := 11) hx hb hts inG11 hown hK hP 0 (gX_0 cs ad nu64_) rfl 3 (by decide) (hts _ (List.mem_cons_of_mem _ mw_2_161)) (fun _ h9 => h9) rfl dX11_block_67 ?_
        refine va_get (D := (dC, dI)) (ci := 10) (v := .int (nu64_ 4 7)) (C := RX10) (T := TX10) (N := 8) hx hb hts inG10 hown hK hP 4 (gX_4 cs ad nu64_) rfl 7 (by decide) (hts _ (List.mem_cons_of_mem _ mw_1_167)) (fun _ h9 => h9) rfl dX11_block_70 ?_
        refine lv_topi (fun y12 ey12 => ?_)
        have by12 : y12.toInt = (nu64_ 4 7).toInt := congrArg Int32.toInt ey12
        have gy12 : 0 ≤ y12.toInt ∧ y12.toInt ≤ 12 := by rw [ey12]; exact rX_4_7 ok
        refine lv_icmp_gt (tgt := 107) hx hb dX11_block_73 (by decide) (fun c_13 => ?_) (fun c_13 => ?_)
        · have c_13 : y12.toInt < v4_64.toInt := il_lt c_13
          refine lv_iconst (v := 0) hx hb dX11_block_107 (by decide) ?_
          exact W.iret (v := 0) hx hb hr (fun t ht hW => ⟨⟨0, nu64_, rfl, ⟨ok, trivial, kq64_0⟩, by first | (subst ht; exact hP) | (rw [ht]; exact hP) | (show va_P (dC, dI) vwCl (wR 157 ad (EX cs ad) nu64_) t.heap; rw [ht]; exact hP)⟩, hS.F ht⟩) hS.2.2 dX11_block_108
        · have c_13 : v4_64.toInt ≤ y12.toInt := il_nlt c_13
          refine lv_aload_n hx hb dX11_block_76 rfl (lv_at hl 3 rfl) ?_
          refine lv_iload_n hx hb dX11_block_77 rfl (lv_at hl 1 rfl) ?_
          refine lv_iload hx hb dX11_block_78 (lv_at hl 0 rfl) ?_
          have hFc := fr_all (wR_D nu64_ hD) hS hA
          refine va_calli (va_runV (As := [.int t11, .int v4_64]) (rest := []) ⟨hx, hb, hml, hown, hts⟩ (sx_leastBlock l dC dI cs ad nu64_ ok H hP ((wR_D nu64_ hD).weaken (fun _ _ _ _ => trivial)) t11 v4_64) (cwV 2 hts (wU_V mw_4_97 mw_4_94 mw_4_96 mw_0_17 mw_1_1) rfl rfl rfl (by decide +kernel) ⟨Nat.le_of_ble_eq_true rfl, Nat.le_of_ble_eq_true rfl⟩) ⟨sz_c, va_recv hK hP (ci := 11) (q0 := 0) rfl (gX_0 cs ad nu64_), sz_m hK hz⟩ rfl rfl hl.1 rfl (lv_room (Nat.le_of_ble_eq_true rfl)) dX11_block_80 ⟨Nat.zero_le _, Nat.zero_le _⟩) hS (fun q _ h => hFc q h) hFc (fun r14 xi14 t H14 locs ht hvm hw14 hB hz1 hk1 hS => ?_)
          have hP : va_P (dC, dI) vwCl (wR 157 ad (EX cs ad) xi14) H14 := by rw [← ht]; exact hB
          obtain ⟨ok, hw14, hkp14_0⟩ := hw14
          have kp15 : (∀ k f : Nat, Nat.testBit 510 (gpX k f) = true → xi14 k f = mu k f) := kp_t hkp14_0 (by decide) kq64_0
          refine lv_istore (lv' := [(5, .int r14), (4, .int v4_64), (3, .int t11), (2, .int 0), (0, .ref (ad 0)), (1, .int vk)]) hx hb dX11_block_83 hl (by decide) rfl (fun ls hl => ?_)
          refine lv_iload hx hb dX11_block_85 (lv_at hl 0 rfl) ?_
          refine lv_bipush (v := (-9)) hx hb dX11_block_87 (by decide) ?_
          refine lv_icmp_eq (tgt := 101) hx hb dX11_block_89 (by decide) (fun c_16 => ?_) (fun c_16 => ?_)
          · have c_16 : r14.toInt = -9 := il_eq c_16
            refine lv_iinc (v := (v4_64 + 1)) (lv' := [(4, .int (v4_64 + 1)), (5, .int r14), (3, .int t11), (2, .int 0), (0, .ref (ad 0)), (1, .int vk)]) hx hb dX11_block_101 hl (k := 1) rfl rfl (by decide) rfl (fun ls hl => ?_)
            refine loc_gen (P := fun w9 => lv_has ls 6 [(4, .int w9), (5, .int r14), (3, .int t11), (2, .int 0), (0, .ref (ad 0)), (1, .int vk)]) (v4_64 + 1) hl (fun w17 hw17 hl => ?_)
            have hl : lv_has ls 6 [(4, .int w17), (5, .int r14), (3, .int t11), (2, .int 0), (0, .ref (ad 0)), (1, .int vk)] := hl
            have aw17 : w17.toInt = v4_64.toInt + 1 := by rw [← hw17]; exact tI_add (rfl : v4_64.toInt = _) (rfl : (1 : Int32).toInt = 1) (by omega) (by omega)
            refine lv_goto (tgt := 64) hx hb dX11_block_104 (by decide) ?_
            exact ih64 (w17) xi14 _ _ _ (by omega) (by exact ⟨by omega, by omega⟩)  ok hP  kp15 hS (lv_sub hl [0, 2, 3, 4, 5] rfl)
          · have c_16 : ¬ r14.toInt = -9 := il_ne c_16
            refine lv_aload_n hx hb dX11_block_92 rfl (lv_at hl 4 rfl) ?_
            refine lv_iload hx hb dX11_block_93 (lv_at hl 0 rfl) ?_
            refine va_put (D := (dC, dI)) (ci := 11) (v := .int r14) (ty := .int) (C := RX11) (T := TX11) (N := 11) hx hb hts inG11 tyX11 tyX11_ok nmX11 hown hK hP (wR_D xi14 hD) hS 0 (gX_0 cs ad xi14) rfl 10 (by decide) (hts _ (List.mem_cons_of_mem _ mw_2_168)) (fun _ h9 => h9) rfl (by decide +kernel) rfl rfl (Nat.le_of_ble_eq_true rfl) dX11_block_95 (fun H locs hP _ hS => ?_)
            simp only [List.set_cons_succ, List.set_cons_zero] at hP
            refine wr_gen (upd (xi14 0) 10 r14) hP ((hX_0_10 cs ad _ _)) (fun nu18 hn18 hP => ?_)
            have ok := tX_0_10 ok hn18
            have kp19 : (∀ k f : Nat, Nat.testBit 510 (gpX k f) = true → nu18 k f = mu k f) := kp_c 0 hn18 (fun _ => rfl) (by decide) kp15
            have ez20 : r14 = nu18 0 10 := up_v hn18
            refine lv_iload hx hb dX11_block_98 (lv_at hl 1 rfl) ?_
            exact W.iret (v := v4_64) hx hb hr (fun t ht hW => ⟨⟨v4_64, nu18, rfl, ⟨ok, trivial, kp19⟩, by first | (subst ht; exact hP) | (rw [ht]; exact hP) | (show va_P (dC, dI) vwCl (wR 157 ad (EX cs ad) nu18) t.heap; rw [ht]; exact hP)⟩, hS.F ht⟩) hS.2.2 dX11_block_100
    exact loop64 ((13 + 1 - (0 : Int32).toInt).toNat + 1) (0) xi4 _ _ _ (Nat.lt_succ_self _) (by have h80 : (0 : Int32).toInt = 0 := rfl; exact ⟨by omega, by omega⟩)  ok hP  kp5 hS hl
  · have kp2 : (∀ k f : Nat, Nat.testBit 510 (gpX k f) = true → xi1 k f = mu k f) := kp_t hkp1_0 (by decide) (fun _ _ _ => rfl)
    skip
    refine lv_istore_n (lv' := [(2, .int r1), (0, .ref (ad 0)), (1, .int vk)]) hx hb dX11_block_6 rfl hl (by decide) rfl (fun ls hl => ?_)
    refine lv_iload_n hx hb dX11_block_7 rfl (lv_at hl 0 rfl) ?_
    refine lv_if_eq (tgt := 13) hx hb dX11_block_8 (by decide) (fun c_21 => by have c_21 : r1.toInt = 0 := il_eq c_21; exfalso; omega) (fun c_21 => ?_)
    have c_21 : ¬ r1.toInt = 0 := il_ne c_21
    refine lv_iload_n hx hb dX11_block_11 rfl (lv_at hl 0 rfl) ?_
    exact W.iret (v := r1) hx hb hr (fun t ht hW => ⟨⟨r1, xi1, rfl, ⟨ok, trivial, kp2⟩, by first | (subst ht; exact hP) | (rw [ht]; exact hP) | (show va_P (dC, dI) vwCl (wR 157 ad (EX cs ad) xi1) t.heap; rw [ht]; exact hP)⟩, hS.F ht⟩) hS.2.2 dX11_block_12
