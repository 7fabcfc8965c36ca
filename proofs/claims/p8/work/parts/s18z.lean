set_option maxHeartbeats 4000000 in
set_option maxRecDepth 100000 in
/-- qx_fault -/
theorem qx_fault (l : Launch) (dC : Nat → ClassId) (dI : Nat → Nat → Nat) (cs : Nat → ClassId) (ad : Nat → Nat) (mu : Nat → Nat → Int32) (ok : okR loX hiX mu) (H : Heap) (hP : va_P (dC, dI) vwCl (wR 157 ad (EX cs ad) mu) H) (hD0 : va_D (fun _ => True) (wR 157 ad (EX cs ad) mu)) (tt : Nat) (vt : Int32) : Met l yX11_fault (wU yX11_fault cX11_fault 3 (some .int)) ({ frames := 3, cells := 0, slots := 0, locals := 69 }) (va_Pc [.ref (ad 0), .int vt] (sy_P (dC, dI) vwCl (tyW cs) (va_A (wR 157 ad (EX cs ad) mu) H.size) tt H)) (va_Qi (fun (z : Int32) (xi : Nat → Nat → Int32) => okR loX hiX xi ∧ (True) ∧ True) (fun xi t => va_P (dC, dI) vwCl (wR 157 ad (EX cs ad) xi) t.heap) (va_A (wR 157 ad (EX cs ad) mu) H.size)) 0 0 (va_A (wR 157 ad (EX cs ad) mu) H.size) := by
  refine Met.ofW (cc := cX11_fault) (maxL := 3) (ret := (some .int)) (by decide) rfl ?_
  intro p e s m args below meth c s₁ B hml hv
  obtain ⟨rfl, hh, hK, hz, hks⟩ := hv
  have hx := B.exec
  have hb := B.bytes
  have hr := B.returns
  have hts := atoms_spec (ws := (wU yX11_fault cX11_fault 3 (some .int))) B.pre
  have hown : s.vm.findClass RX11 = some m.cls := findClass_of_methodNamed B.named
  have hlocks := B.notSynchronized
  subst hh
  have hD := hD0.self (sz := s.heap.size)
  have hA : ∀ q : Nat, s.heap.size ≤ q → (va_A (wR 157 ad (EX cs ad) mu) s.heap.size) q := fun q h => Or.inr h
  have hS : va_S (va_A (wR 157 ad (EX cs ad) mu) s.heap.size) s.heap s.heap [] := va_S.rf
  have hl := lv_entry ([.ref (ad 0), .int vt]) (n := 3) (Nat.le_of_ble_eq_true rfl)
  rw [lg_entry_eq]
  generalize (lg_sl ([.ref (ad 0), .int vt]) ++ List.replicate (3 - (lg_sl ([.ref (ad 0), .int vt])).length) Slot.unset).toArray = ls at hl ⊢
  have hl : lv_has ls 3 [(0, .ref (ad 0)), (1, .int vt)] := hl
  refine lv_aload_n hx hb dX11_fault_0 rfl (lv_at hl 0 rfl) ?_
  refine lv_iload_n hx hb dX11_fault_1 rfl (lv_at hl 1 rfl) ?_
  have hFc := fr_all (wR_D mu hD) hS hA
  refine va_calli (va_runV (As := [.int vt]) (rest := []) ⟨hx, hb, hml, hown, hts⟩ (sx_refusedText l dC dI cs ad mu ok s.heap hP ((wR_D mu hD).weaken (fun _ _ _ _ => trivial)) vt) (cwV 1 hts (wU_V mw_3_30 mw_3_27 mw_3_29 mw_0_3 mw_1_1) rfl rfl rfl (by decide +kernel) ⟨Nat.le_of_ble_eq_true rfl, Nat.le_of_ble_eq_true rfl⟩) ⟨sz_c, va_recv hK hP (ci := 11) (q0 := 0) rfl (gX_0 cs ad mu), sz_m hK hz⟩ rfl rfl hl.1 rfl (lv_room (Nat.le_of_ble_eq_true rfl)) dX11_fault_2 ⟨Nat.zero_le _, Nat.zero_le _⟩) hS (fun q _ h => hFc q h) hFc (fun r1 xi1 t H1 locs ht hvm hw1 hB hz1 hk1 hS => ?_)
  have hP : va_P (dC, dI) vwCl (wR 157 ad (EX cs ad) xi1) H1 := by rw [← ht]; exact hB
  rcases hw1 with ⟨rfl, hxi1, f1⟩ | ⟨z1, ok⟩
  · have hP : va_P (dC, dI) vwCl (wR 157 ad (EX cs ad) mu) H1 := by rw [← hxi1]; exact hP
    have f1 : 0 ≤ vt.toInt ∧ vt.toInt ≤ 3 ∧ 0 ≤ (mu (14 + vt.toNatClampNeg) 1).toInt := f1
    refine lv_istore_n (lv' := [(2, .int 0), (0, .ref (ad 0)), (1, .int vt)]) hx hb dX11_fault_5 rfl hl (by decide) rfl (fun ls hl => ?_)
    refine lv_iload_n hx hb dX11_fault_6 rfl (lv_at hl 0 rfl) ?_
    refine lv_if_eq (tgt := 12) hx hb dX11_fault_7 (by decide) (fun _ => ?_) (fun c => absurd (by decide) c)
    refine lv_aload_n hx hb dX11_fault_12 rfl (lv_at hl 1 rfl) ?_
    refine va_get (D := (dC, dI)) (ci := 11) (v := .ref (ad 31)) (C := RX11) (T := TX11) (N := 11) hx hb hts inG11 hown hK hP 0 (gX_0 cs ad mu) rfl 4 (by decide) (hts _ (List.mem_cons_of_mem _ mw_2_162)) (fun _ h9 => h9) rfl dX11_fault_13 ?_
    refine lv_aload_n hx hb dX11_fault_16 rfl (lv_at hl 1 rfl) ?_
    refine va_get (D := (dC, dI)) (ci := 11) (v := .ref (ad 2)) (C := RX11) (T := TX11) (N := 11) hx hb hts inG11 hown hK hP 0 (gX_0 cs ad mu) rfl 1 (by decide) (hts _ (List.mem_cons_of_mem _ mw_2_159)) (fun _ h9 => h9) rfl dX11_fault_17 ?_
    refine lv_iload_n hx hb dX11_fault_20 rfl (lv_at hl 2 rfl) ?_
    have hx2 : 0 ≤ vt.toInt ∧ vt.toInt < ((4 : Nat) : Int) := ⟨by omega, by omega⟩
    refine va_aldq hx hb hK hP 2 3 (gX_2 cs ad mu) rfl (show vp_in vt 4 from vi_of hx2.1 hx2.2) dX11_fault_21 ?_
    have hk2 : 14 ≤ (14 + vt.toNatClampNeg) ∧ (14 + vt.toNatClampNeg) < 18 := ix_of hx2
    refine lq_v (.ref (ad (14 + vt.toNatClampNeg))) rfl ?_
    have hFc := fr_all (wR_D mu hD) hS hA
    refine va_calli (va_runV (As := [.ref (ad (14 + vt.toNatClampNeg))]) (rest := []) ⟨hx, hb, hml, hown, hts⟩ (sx_faultIn l dC dI cs ad mu ok H1 hP ((wR_D mu hD).weaken (fun _ _ _ _ => trivial)) tt (14 + vt.toNatClampNeg) hk2.1 hk2.2) (cwV 1 hts (wU_V mw_3_42 mw_3_39 mw_3_40 mw_3_41 mw_1_5) rfl rfl rfl (by decide +kernel) ⟨Nat.le_of_ble_eq_true rfl, Nat.le_of_ble_eq_true rfl⟩) ⟨sy_c, va_recv hK hP (ci := 4) (q0 := 31) rfl (gX_31 cs ad mu), sy_m hK hz (hks.on hS hFc)⟩ rfl rfl hl.1 rfl (lv_room (Nat.le_of_ble_eq_true rfl)) dX11_fault_22 ⟨Nat.zero_le _, Nat.zero_le _⟩) hS (fun q _ h => hFc q h) hFc (fun r3 xi3 t H3 locs ht hvm hw3 hB hz1 hk1 hS => ?_)
    have hP : va_P (dC, dI) vwCl (wR 157 ad (EX cs ad) xi3) H3 := by rw [← ht]; exact hB
    obtain ⟨ok, hw3, _⟩ := hw3
    exact W.iret (v := r3) hx hb hr (fun t ht hW => ⟨⟨r3, xi3, rfl, ⟨ok, trivial, trivial⟩, by first | (subst ht; exact hP) | (rw [ht]; exact hP) | (show va_P (dC, dI) vwCl (wR 157 ad (EX cs ad) xi3) t.heap; rw [ht]; exact hP)⟩, hS.F ht⟩) hS.2.2 dX11_fault_25
  · skip
    refine lv_istore_n (lv' := [(2, .int r1), (0, .ref (ad 0)), (1, .int vt)]) hx hb dX11_fault_5 rfl hl (by decide) rfl (fun ls hl => ?_)
    refine lv_iload_n hx hb dX11_fault_6 rfl (lv_at hl 0 rfl) ?_
    refine lv_if_eq (tgt := 12) hx hb dX11_fault_7 (by decide) (fun c_4 => by have c_4 : r1.toInt = 0 := il_eq c_4; exfalso; omega) (fun c_4 => ?_)
    have c_4 : ¬ r1.toInt = 0 := il_ne c_4
    refine lv_iload_n hx hb dX11_fault_10 rfl (lv_at hl 0 rfl) ?_
    exact W.iret (v := r1) hx hb hr (fun t ht hW => ⟨⟨r1, xi1, rfl, ⟨ok, trivial, trivial⟩, by first | (subst ht; exact hP) | (rw [ht]; exact hP) | (show va_P (dC, dI) vwCl (wR 157 ad (EX cs ad) xi1) t.heap; rw [ht]; exact hP)⟩, hS.F ht⟩) hS.2.2 dX11_fault_11
set_option maxHeartbeats 4000000 in
set_option maxRecDepth 100000 in
/-- qx_town -/
theorem qx_town (l : Launch) (dC : Nat → ClassId) (dI : Nat → Nat → Nat) (cs : Nat → ClassId) (ad : Nat → Nat) (mu : Nat → Nat → Int32) (ok : okR loX hiX mu) (H : Heap) (hP : va_P (dC, dI) vwCl (wR 157 ad (EX cs ad) mu) H) (hD0 : va_D (fun _ => True) (wR 157 ad (EX cs ad) mu)) (tt : Nat) (vt : Int32) : Met l yX11_town (wU yX11_town cX11_town 4 (some .int)) ({ frames := 3, cells := 0, slots := 0, locals := 81 }) (va_Pc [.ref (ad 0), .int vt] (sy_P (dC, dI) vwCl (tyW cs) (va_A (wR 157 ad (EX cs ad) mu) H.size) tt H)) (va_Qi (fun (z : Int32) (xi : Nat → Nat → Int32) => okR loX hiX xi ∧ (True) ∧ True) (fun xi t => va_P (dC, dI) vwCl (wR 157 ad (EX cs ad) xi) t.heap) (va_A (wR 157 ad (EX cs ad) mu) H.size)) 0 0 (va_A (wR 157 ad (EX cs ad) mu) H.size) := by
  refine Met.ofW (cc := cX11_town) (maxL := 4) (ret := (some .int)) (by decide) rfl ?_
  intro p e s m args below meth c s₁ B hml hv
  obtain ⟨rfl, hh, hK, hz, hks⟩ := hv
  have hx := B.exec
  have hb := B.bytes
  have hr := B.returns
  have hts := atoms_spec (ws := (wU yX11_town cX11_town 4 (some .int))) B.pre
  have hown : s.vm.findClass RX11 = some m.cls := findClass_of_methodNamed B.named
  have hlocks := B.notSynchronized
  subst hh
  have hD := hD0.self (sz := s.heap.size)
  have hA : ∀ q : Nat, s.heap.size ≤ q → (va_A (wR 157 ad (EX cs ad) mu) s.heap.size) q := fun q h => Or.inr h
  have hS : va_S (va_A (wR 157 ad (EX cs ad) mu) s.heap.size) s.heap s.heap [] := va_S.rf
  have hl := lv_entry ([.ref (ad 0), .int vt]) (n := 4) (Nat.le_of_ble_eq_true rfl)
  rw [lg_entry_eq]
  generalize (lg_sl ([.ref (ad 0), .int vt]) ++ List.replicate (4 - (lg_sl ([.ref (ad 0), .int vt])).length) Slot.unset).toArray = ls at hl ⊢
  have hl : lv_has ls 4 [(0, .ref (ad 0)), (1, .int vt)] := hl
  refine lv_aload_n hx hb dX11_town_0 rfl (lv_at hl 0 rfl) ?_
  refine lv_iload_n hx hb dX11_town_1 rfl (lv_at hl 1 rfl) ?_
  have hFc := fr_all (wR_D mu hD) hS hA
  refine va_calli (va_runV (As := [.int vt]) (rest := []) ⟨hx, hb, hml, hown, hts⟩ (sx_refusedText l dC dI cs ad mu ok s.heap hP ((wR_D mu hD).weaken (fun _ _ _ _ => trivial)) vt) (cwV 1 hts (wU_V mw_3_30 mw_3_27 mw_3_29 mw_0_3 mw_1_1) rfl rfl rfl (by decide +kernel) ⟨Nat.le_of_ble_eq_true rfl, Nat.le_of_ble_eq_true rfl⟩) ⟨sz_c, va_recv hK hP (ci := 11) (q0 := 0) rfl (gX_0 cs ad mu), sz_m hK hz⟩ rfl rfl hl.1 rfl (lv_room (Nat.le_of_ble_eq_true rfl)) dX11_town_2 ⟨Nat.zero_le _, Nat.zero_le _⟩) hS (fun q _ h => hFc q h) hFc (fun r1 xi1 t H1 locs ht hvm hw1 hB hz1 hk1 hS => ?_)
  have hP : va_P (dC, dI) vwCl (wR 157 ad (EX cs ad) xi1) H1 := by rw [← ht]; exact hB
  rcases hw1 with ⟨rfl, hxi1, f1⟩ | ⟨z1, ok⟩
  · have hP : va_P (dC, dI) vwCl (wR 157 ad (EX cs ad) mu) H1 := by rw [← hxi1]; exact hP
    have f1 : 0 ≤ vt.toInt ∧ vt.toInt ≤ 3 ∧ 0 ≤ (mu (14 + vt.toNatClampNeg) 1).toInt := f1
    refine lv_istore_n (lv' := [(2, .int 0), (0, .ref (ad 0)), (1, .int vt)]) hx hb dX11_town_5 rfl hl (by decide) rfl (fun ls hl => ?_)
    refine lv_iload_n hx hb dX11_town_6 rfl (lv_at hl 0 rfl) ?_
    refine lv_if_eq (tgt := 12) hx hb dX11_town_7 (by decide) (fun _ => ?_) (fun c => absurd (by decide) c)
    refine lv_aload_n hx hb dX11_town_12 rfl (lv_at hl 1 rfl) ?_
    refine va_get (D := (dC, dI)) (ci := 11) (v := .ref (ad 31)) (C := RX11) (T := TX11) (N := 11) hx hb hts inG11 hown hK hP 0 (gX_0 cs ad mu) rfl 4 (by decide) (hts _ (List.mem_cons_of_mem _ mw_2_162)) (fun _ h9 => h9) rfl dX11_town_13 ?_
    refine lv_aload_n hx hb dX11_town_16 rfl (lv_at hl 1 rfl) ?_
    refine va_get (D := (dC, dI)) (ci := 11) (v := .ref (ad 2)) (C := RX11) (T := TX11) (N := 11) hx hb hts inG11 hown hK hP 0 (gX_0 cs ad mu) rfl 1 (by decide) (hts _ (List.mem_cons_of_mem _ mw_2_159)) (fun _ h9 => h9) rfl dX11_town_17 ?_
    refine lv_iload_n hx hb dX11_town_20 rfl (lv_at hl 2 rfl) ?_
    have hx2 : 0 ≤ vt.toInt ∧ vt.toInt < ((4 : Nat) : Int) := ⟨by omega, by omega⟩
    refine va_aldq hx hb hK hP 2 3 (gX_2 cs ad mu) rfl (show vp_in vt 4 from vi_of hx2.1 hx2.2) dX11_town_21 ?_
    have hk2 : 14 ≤ (14 + vt.toNatClampNeg) ∧ (14 + vt.toNatClampNeg) < 18 := ix_of hx2
    refine lq_v (.ref (ad (14 + vt.toNatClampNeg))) rfl ?_
    have hFc := fr_all (wR_D mu hD) hS hA
    refine va_calli (va_runV (As := [.ref (ad (14 + vt.toNatClampNeg))]) (rest := []) ⟨hx, hb, hml, hown, hts⟩ (sx_faultIn l dC dI cs ad mu ok H1 hP ((wR_D mu hD).weaken (fun _ _ _ _ => trivial)) tt (14 + vt.toNatClampNeg) hk2.1 hk2.2) (cwV 1 hts (wU_V mw_3_42 mw_3_39 mw_3_40 mw_3_41 mw_1_5) rfl rfl rfl (by decide +kernel) ⟨Nat.le_of_ble_eq_true rfl, Nat.le_of_ble_eq_true rfl⟩) ⟨sy_c, va_recv hK hP (ci := 4) (q0 := 31) rfl (gX_31 cs ad mu), sy_m hK hz (hks.on hS hFc)⟩ rfl rfl hl.1 rfl (lv_room (Nat.le_of_ble_eq_true rfl)) dX11_town_22 ⟨Nat.zero_le _, Nat.zero_le _⟩) hS (fun q _ h => hFc q h) hFc (fun r3 xi3 t H3 locs ht hvm hw3 hB hz1 hk1 hS => ?_)
    have hP : va_P (dC, dI) vwCl (wR 157 ad (EX cs ad) xi3) H3 := by rw [← ht]; exact hB
    obtain ⟨ok, hw3, _⟩ := hw3
    refine lv_bipush (v := (-9)) hx hb dX11_town_25 (by decide) ?_
    refine lv_icmp_eq (tgt := 33) hx hb dX11_town_27 (by decide) (fun c_4 => ?_) (fun c_4 => ?_)
    · have c_4 : r3.toInt = -9 := il_eq c_4
      refine lv_aload_n hx hb dX11_town_33 rfl (lv_at hl 1 rfl) ?_
      refine va_get (D := (dC, dI)) (ci := 11) (v := .ref (ad 31)) (C := RX11) (T := TX11) (N := 11) hx hb hts inG11 hown hK hP 0 (gX_0 cs ad xi3) rfl 4 (by decide) (hts _ (List.mem_cons_of_mem _ mw_2_162)) (fun _ h9 => h9) rfl dX11_town_34 ?_
      refine lv_aload_n hx hb dX11_town_37 rfl (lv_at hl 1 rfl) ?_
      refine va_get (D := (dC, dI)) (ci := 11) (v := .ref (ad 4)) (C := RX11) (T := TX11) (N := 11) hx hb hts inG11 hown hK hP 0 (gX_0 cs ad xi3) rfl 3 (by decide) (hts _ (List.mem_cons_of_mem _ mw_2_161)) (fun _ h9 => h9) rfl dX11_town_38 ?_
      have hFc := fr_all (wR_D xi3 hD) hS hA
      refine va_callv (va_runV (As := [.ref (ad 4)]) (rest := []) ⟨hx, hb, hml, hown, hts⟩ (sx_build l dC dI cs ad xi3 ok H3 hP ((wR_D xi3 hD).weaken (fun _ _ _ _ => trivial))) (cwV 1 hts (wU_V mw_3_67 mw_3_64 mw_3_65 mw_3_66 mw_1_5) rfl rfl rfl (by decide +kernel) ⟨Nat.le_of_ble_eq_true rfl, Nat.le_of_ble_eq_true rfl⟩) ⟨sz_c, va_recv hK hP (ci := 4) (q0 := 31) rfl (gX_31 cs ad xi3), sz_m hK hz⟩ rfl rfl hl.1 rfl (lv_room (Nat.le_of_ble_eq_true rfl)) dX11_town_41 ⟨Nat.zero_le _, Nat.zero_le _⟩) hS (fun q _ h => hFc q h) hFc (fun xi5 t H5 locs ht hvm hw5 hB hz1 hk1 hS => ?_)
      have hP : va_P (dC, dI) vwCl (wR 157 ad (EX cs ad) xi5) H5 := by rw [← ht]; exact hB
      obtain ⟨ok, hw5, _⟩ := hw5
      refine lv_aload_n hx hb dX11_town_44 rfl (lv_at hl 1 rfl) ?_
      refine va_get (D := (dC, dI)) (ci := 11) (v := .ref (ad 6)) (C := RX11) (T := TX11) (N := 11) hx hb hts inG11 hown hK hP 0 (gX_0 cs ad xi5) rfl 5 (by decide) (hts _ (List.mem_cons_of_mem _ mw_2_163)) (fun _ h9 => h9) rfl dX11_town_45 ?_
      refine lv_iconst (v := 0) hx hb dX11_town_48 (by decide) ?_
      refine va_put (D := (dC, dI)) (ci := 2) (v := .int 0) (ty := .int) (C := RX2) (T := TX2) (N := 2) hx hb hts inG2 tyX2 tyX2_ok nmX2 hown hK hP (wR_D xi5 hD) hS 6 (gX_6 cs ad xi5) rfl 1 (by decide) (hts _ (List.mem_cons_of_mem _ mw_2_8)) (fun _ h9 => h9) rfl (by decide +kernel) rfl rfl (Nat.le_of_ble_eq_true rfl) dX11_town_49 (fun H locs hP _ hS => ?_)
      simp only [List.set_cons_succ, List.set_cons_zero] at hP
      refine wr_gen (upd (xi5 6) 1 0) hP ((hX_6_1 cs ad _ _)) (fun nu6 hn6 hP => ?_)
      have ok := tX_6_1 ok hn6 (by have h9 : (0 : Int32).toInt = 0 := rfl; exact ⟨by omega, by omega⟩)
      have ez7 : 0 = nu6 6 1 := up_v hn6
      refine lv_iconst (v := 0) hx hb dX11_town_52 (by decide) ?_
      refine lv_istore_n (lv' := [(3, .int 0), (2, .int 0), (0, .ref (ad 0)), (1, .int vt)]) hx hb dX11_town_53 rfl hl (by decide) rfl (fun ls hl => ?_)
      have loop54 : ∀ (n54 : Nat) (v3_54 : Int32) (nu54_ : Nat → Nat → Int32) (H : Heap) (locs : List Loc) (ls : Array Slot), (3 + 1 - v3_54.toInt).toNat < n54 → (0 ≤ v3_54.toInt ∧ v3_54.toInt ≤ 3) → okR loX hiX nu54_ → va_P (dC, dI) vwCl (wR 157 ad (EX cs ad) nu54_) H → va_S (va_A (wR 157 ad (EX cs ad) mu) s.heap.size) s.heap H locs → lv_has ls 4 [(3, .int v3_54), (2, .int 0), (0, .ref (ad 0)), (1, .int vt)] → W p l e (headSpec (wU yX11_town cX11_town 4 (some .int)) ({ frames := 3, cells := 0, slots := 0, locals := 81 })).room s m ([.ref (ad 0), .int vt] : List Value).toArray below meth c H locs 0 0 (MQ below (va_Qi (fun (z : Int32) (xi : Nat → Nat → Int32) => okR loX hiX xi ∧ (True) ∧ True) (fun xi t => va_P (dC, dI) vwCl (wR 157 ad (EX cs ad) xi) t.heap) (va_A (wR 157 ad (EX cs ad) mu) s.heap.size)) ([.ref (ad 0), .int vt] : List Value).toArray s 0 0 (va_A (wR 157 ad (EX cs ad) mu) s.heap.size)) (F0 m 54 ls []) := by
        intro n54
        induction n54 with
        | zero => intro v3_54 nu54_ H locs ls hm; exact absurd hm (Nat.not_lt_zero _)
        | succ n54 ih54 =>
          intro v3_54 nu54_ H locs ls hm h_v3_54 ok hP hS hl
          refine lv_iload_n hx hb dX11_town_54 rfl (lv_at hl 0 rfl) ?_
          refine lv_iconst (v := 3) hx hb dX11_town_55 (by decide) ?_
          refine lv_icmp_ge (tgt := 75) hx hb dX11_town_56 (by decide) (fun c_8 => ?_) (fun c_8 => ?_)
          · have c_8 : 3 ≤ v3_54.toInt := il_le c_8
            refine lv_aload_n hx hb dX11_town_75 rfl (lv_at hl 2 rfl) ?_
            refine va_get (D := (dC, dI)) (ci := 11) (v := .ref (ad 4)) (C := RX11) (T := TX11) (N := 11) hx hb hts inG11 hown hK hP 0 (gX_0 cs ad nu54_) rfl 3 (by decide) (hts _ (List.mem_cons_of_mem _ mw_2_161)) (fun _ h9 => h9) rfl dX11_town_76 ?_
            refine va_get (D := (dC, dI)) (ci := 10) (v := .int (nu54_ 4 6)) (C := RX10) (T := TX10) (N := 8) hx hb hts inG10 hown hK hP 4 (gX_4 cs ad nu54_) rfl 6 (by decide) (hts _ (List.mem_cons_of_mem _ mw_1_164)) (fun _ h9 => h9) rfl dX11_town_79 ?_
            refine lv_topi (fun y9 ey9 => ?_)
            have by9 : y9.toInt = (nu54_ 4 6).toInt := congrArg Int32.toInt ey9
            have gy9 : 0 ≤ y9.toInt ∧ y9.toInt ≤ 7 := by rw [ey9]; exact rX_4_6 ok
            exact W.iret (v := y9) hx hb hr (fun t ht hW => ⟨⟨y9, nu54_, rfl, ⟨ok, trivial, trivial⟩, by first | (subst ht; exact hP) | (rw [ht]; exact hP) | (show va_P (dC, dI) vwCl (wR 157 ad (EX cs ad) nu54_) t.heap; rw [ht]; exact hP)⟩, hS.F ht⟩) hS.2.2 dX11_town_82
          · have c_8 : v3_54.toInt < 3 := il_nle c_8
            refine lv_aload_n hx hb dX11_town_59 rfl (lv_at hl 2 rfl) ?_
            refine va_get (D := (dC, dI)) (ci := 11) (v := .ref (ad 3)) (C := RX11) (T := TX11) (N := 11) hx hb hts inG11 hown hK hP 0 (gX_0 cs ad nu54_) rfl 2 (by decide) (hts _ (List.mem_cons_of_mem _ mw_2_160)) (fun _ h9 => h9) rfl dX11_town_60 ?_
            refine lv_iload_n hx hb dX11_town_63 rfl (lv_at hl 0 rfl) ?_
            have hx10 : 0 ≤ v3_54.toInt ∧ v3_54.toInt < ((3 : Nat) : Int) := ⟨by omega, by omega⟩
            refine va_aldq hx hb hK hP 3 4 (gX_3 cs ad nu54_) rfl (show vp_in v3_54 3 from vi_of hx10.1 hx10.2) dX11_town_64 ?_
            have hk10 : 18 ≤ (18 + v3_54.toNatClampNeg) ∧ (18 + v3_54.toNatClampNeg) < 21 := ix_of hx10
            refine lq_v (.ref (ad (18 + v3_54.toNatClampNeg))) rfl ?_
            refine lv_iconst (v := 0) hx hb dX11_town_65 (by decide) ?_
            refine va_put (D := (dC, dI)) (ci := 8) (v := .int 0) (ty := .boolean) (C := RX8) (T := TX8) (N := 6) hx hb hts inG8 tyX8 tyX8_ok nmX8 hown hK hP (wR_D nu54_ hD) hS (18 + v3_54.toNatClampNeg) (gX_kept cs ad nu54_ (18 + v3_54.toNatClampNeg) hk10.1 hk10.2) rfl 5 (by decide) (hts _ (List.mem_cons_of_mem _ mw_1_129)) (fun _ h9 => h9) rfl (by decide +kernel) (by first | rfl | decide) (by first | rfl | decide) (Nat.le_of_ble_eq_true rfl) dX11_town_66 (fun H locs hP _ hS => ?_)
            simp only [List.set_cons_succ, List.set_cons_zero] at hP
            refine wr_gen (upd (nu54_ (18 + v3_54.toNatClampNeg)) 5 0) hP ((hX_kept_5 cs ad _ _ (18 + v3_54.toNatClampNeg) hk10.1 hk10.2)) (fun nu11 hn11 hP => ?_)
            have ok := tX_kept_5 ok (18 + v3_54.toNatClampNeg) hk10.1 hk10.2 hn11 (by have h9 : (0 : Int32).toInt = 0 := rfl; exact ⟨by omega, by omega⟩)
            have ez12 : 0 = nu11 (18 + v3_54.toNatClampNeg) 5 := up_v hn11
            refine lv_iinc (v := (v3_54 + 1)) (lv' := [(3, .int (v3_54 + 1)), (2, .int 0), (0, .ref (ad 0)), (1, .int vt)]) hx hb dX11_town_69 hl (k := 0) rfl rfl (by decide) rfl (fun ls hl => ?_)
            refine loc_gen (P := fun w9 => lv_has ls 4 [(3, .int w9), (2, .int 0), (0, .ref (ad 0)), (1, .int vt)]) (v3_54 + 1) hl (fun w13 hw13 hl => ?_)
            have hl : lv_has ls 4 [(3, .int w13), (2, .int 0), (0, .ref (ad 0)), (1, .int vt)] := hl
            have aw13 : w13.toInt = v3_54.toInt + 1 := by rw [← hw13]; exact tI_add (rfl : v3_54.toInt = _) (rfl : (1 : Int32).toInt = 1) (by omega) (by omega)
            refine lv_goto (tgt := 54) hx hb dX11_town_72 (by decide) ?_
            exact ih54 (w13) nu11 _ _ _ (by omega) (by exact ⟨by omega, by omega⟩)  ok hP   hS (lv_sub hl [0, 1, 2, 3] rfl)
      exact loop54 ((3 + 1 - (0 : Int32).toInt).toNat + 1) (0) nu6 _ _ _ (Nat.lt_succ_self _) (by have h80 : (0 : Int32).toInt = 0 := rfl; exact ⟨by omega, by omega⟩)  ok hP   hS hl
    · have c_4 : ¬ r3.toInt = -9 := il_ne c_4
      refine lv_bipush (v := (-4)) hx hb dX11_town_30 (by decide) ?_
      exact W.iret (v := (-4)) hx hb hr (fun t ht hW => ⟨⟨(-4), xi3, rfl, ⟨ok, trivial, trivial⟩, by first | (subst ht; exact hP) | (rw [ht]; exact hP) | (show va_P (dC, dI) vwCl (wR 157 ad (EX cs ad) xi3) t.heap; rw [ht]; exact hP)⟩, hS.F ht⟩) hS.2.2 dX11_town_32
  · skip
    refine lv_istore_n (lv' := [(2, .int r1), (0, .ref (ad 0)), (1, .int vt)]) hx hb dX11_town_5 rfl hl (by decide) rfl (fun ls hl => ?_)
    refine lv_iload_n hx hb dX11_town_6 rfl (lv_at hl 0 rfl) ?_
    refine lv_if_eq (tgt := 12) hx hb dX11_town_7 (by decide) (fun c_14 => by have c_14 : r1.toInt = 0 := il_eq c_14; exfalso; omega) (fun c_14 => ?_)
    have c_14 : ¬ r1.toInt = 0 := il_ne c_14
    refine lv_iload_n hx hb dX11_town_10 rfl (lv_at hl 0 rfl) ?_
    exact W.iret (v := r1) hx hb hr (fun t ht hW => ⟨⟨r1, xi1, rfl, ⟨ok, trivial, trivial⟩, by first | (subst ht; exact hP) | (rw [ht]; exact hP) | (show va_P (dC, dI) vwCl (wR 157 ad (EX cs ad) xi1) t.heap; rw [ht]; exact hP)⟩, hS.F ht⟩) hS.2.2 dX11_town_11
