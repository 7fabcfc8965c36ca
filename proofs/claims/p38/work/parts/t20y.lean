def F_qm_cheapest (mu : Nat → Nat → Int32) (vk : Int32) (vr : Int32) : Int32 × (Nat → Nat → Int32) :=
  if F_sm_isRow (vr : Int32) = 1 then (
    LETP (F_sm_askedRoutes mu (vk : Int32)) fun r2 xi2 =>
    if r2 = 0 then (
      LETV (xi2 0 30 : Int32) fun y5 =>
      if y5 = (0 : Int32) then (
        (((-9) : Int32), xi2)
      ) else (
        LETV (xi2 0 32 : Int32) fun y7 =>
        LETV (F_sm_layRoute17 xi2 (vr : Int32) (y7 : Int32) : Nat → Nat → Int32) fun xi8 =>
        LETV (xi8 0 31 : Int32) fun y10 =>
        ((y10 : Int32), xi8)
      )
    ) else (
      ((r2 : Int32), xi2)
    )
  ) else (
    (((-1) : Int32), mu)
  )
def F_qm_soonest (mu : Nat → Nat → Int32) (vk : Int32) (vr : Int32) : Int32 × (Nat → Nat → Int32) :=
  LETV (mu 0 39 : Int32) fun y1 =>
  LETV (mu 0 33 : Int32) fun y2 =>
  LETV (mu 0 35 : Int32) fun y3 =>
  if F_sm_isRow (vr : Int32) = 1 then (
    LETP (F_sm_askedRoutes mu (vk : Int32)) fun r5 xi5 =>
    if r5 = 0 then (
      LETV (xi5 0 33 : Int32) fun y8 =>
      if y8 = (0 : Int32) then (
        (((-9) : Int32), xi5)
      ) else (
        LETV (xi5 0 35 : Int32) fun y10 =>
        LETV (F_sm_layRoute18 xi5 (vr : Int32) (y10 : Int32) : Nat → Nat → Int32) fun xi11 =>
        LETV (xi11 0 39 : Int32) fun y13 =>
        LETV (xi11 0 33 : Int32) fun y14 =>
        LETV (xi11 0 35 : Int32) fun y15 =>
        LETV (xi11 0 34 : Int32) fun y16 =>
        LETV (y15 - 1 : Int32) fun t17 =>
        LETP (F_sm_ask xi11 (y16 : Int32) (t17 : Int32)) fun r18 xi18 =>
        LETV (xi18 0 39 : Int32) fun y20 =>
        LETV (xi18 0 33 : Int32) fun y21 =>
        LETV (xi18 0 35 : Int32) fun y22 =>
        ((r18 : Int32), xi18)
      )
    ) else (
      ((r5 : Int32), xi5)
    )
  ) else (
    (((-1) : Int32), mu)
  )
def F_qm_comes (mu : Nat → Nat → Int32) (vk : Int32) : Int32 × (Nat → Nat → Int32) :=
  LETP (F_sm_askedRoutes mu (vk : Int32)) fun r1 xi1 =>
  if r1 = 0 then (
    LETV (xi1 0 30 : Int32) fun y4 =>
    LETV (xi1 0 33 : Int32) fun y5 =>
    LETP (F_sm_ask xi1 (y4 : Int32) (y5 : Int32)) fun r6 xi6 =>
    ((r6 : Int32), xi6)
  ) else (
    ((r1 : Int32), xi1)
  )
def F_qm_bars (mu : Nat → Nat → Int32) (vk : Int32) : Int32 × (Nat → Nat → Int32) :=
  LETP (F_sm_askedRoutes mu (vk : Int32)) fun r1 xi1 =>
  if r1 = 0 then (
    LETV (xi1 0 33 : Int32) fun y4 =>
    if y4 = (0 : Int32) then (
      ((0 : Int32), xi1)
    ) else (
      LETV (xi1 0 36 : Int32) fun y6 =>
      ((y6 : Int32), xi1)
    )
  ) else (
    ((r1 : Int32), xi1)
  )
def F_qm_why (mu : Nat → Nat → Int32) (vk : Int32) : Int32 × (Nat → Nat → Int32) :=
  LETP (F_sm_askedRoutes mu (vk : Int32)) fun r1 xi1 =>
  if r1 = 0 then (
    LETV (xi1 0 33 : Int32) fun y4 =>
    if y4 ≤ (0 : Int32) then (
      LETV (xi1 0 30 : Int32) fun y6 =>
      if y6 ≤ (0 : Int32) then (
        LETV (va_up xi1 0 (upd (xi1 0) 38 0) : Nat → Nat → Int32) fun nu8 =>
        LETV (F_sm_routesOf nu8 (vk : Int32) : Nat → Nat → Int32) fun xi13 =>
        LETV (xi13 0 30 : Int32) fun y15 =>
        if y15 ≤ (0 : Int32) then (
          ((1 : Int32), xi13)
        ) else (
          ((2 : Int32), xi13)
        )
      ) else (
        ((3 : Int32), xi1)
      )
    ) else (
      ((0 : Int32), xi1)
    )
  ) else (
    ((r1 : Int32), xi1)
  )
def F_qm_needs (mu : Nat → Nat → Int32) (vk : Int32) : Int32 × (Nat → Nat → Int32) :=
  LETP (F_sm_askedRoutes mu (vk : Int32)) fun r1 xi1 =>
  if r1 = 0 then (
    LETV (xi1 0 37 : Int32) fun y4 =>
    if y4 ≤ (999 : Int32) then (
      ((y4 : Int32), xi1)
    ) else (
      (((-9) : Int32), xi1)
    )
  ) else (
    ((r1 : Int32), xi1)
  )
def L_qm_lend_22_0 (vk : Int32) : Nat → (Int32) → (Int32) → (Int32) → (Nat → Nat → Int32) → Int32 × (Nat → Nat → Int32)
  | 0, v3_22, v4_22, v5_22, nu22_ => (0, nu22_)
  | n + 1, v3_22, v4_22, v5_22, nu22_ =>
    LETV (nu22_ 0 8 : Int32) fun y4 =>
    if v5_22 ≥ y4 then (
      if v3_22 = ((-9) : Int32) then (
        (((-9) : Int32), nu22_)
      ) else (
        LETP (F_sm_ask nu22_ (v4_22 : Int32) (v3_22 : Int32)) fun r7 xi7 =>
        ((r7 : Int32), xi7)
      )
    ) else (
      LETV (F_sm_letterOf5 nu22_ (vk : Int32) : Int32) fun r9 =>
      if v5_22 = r9 then (
        LETV (nu22_ 8 v5_22.toNatClampNeg : Int32) fun y11 =>
        LETV (va_up nu22_ 8 (upd (nu22_ 8) v5_22.toNatClampNeg 99) : Nat → Nat → Int32) fun nu12 =>
        LETV (F_sm_routesOf nu12 (vk : Int32) : Nat → Nat → Int32) fun xi15 =>
        LETV (va_up xi15 8 (upd (xi15 8) v5_22.toNatClampNeg y11) : Nat → Nat → Int32) fun nu16 =>
        LETV ((v5_22 + 1) : Int32) fun w18 =>
        L_qm_lend_22_0 vk n (v3_22 : Int32) (v4_22 : Int32) (w18 : Int32) nu16
      ) else (
        LETV (nu22_ 7 v5_22.toNatClampNeg : Int32) fun y19 =>
        if y19 = (3 : Int32) then (
          LETV (F_sm_letterOf nu22_ (vk : Int32) (1 : Int32) : Int32) fun r33 =>
          if v5_22 = r33 then (
            LETV (nu22_ 8 v5_22.toNatClampNeg : Int32) fun y44 =>
            LETV (va_up nu22_ 8 (upd (nu22_ 8) v5_22.toNatClampNeg 99) : Nat → Nat → Int32) fun nu45 =>
            LETV (F_sm_routesOf nu45 (vk : Int32) : Nat → Nat → Int32) fun xi49 =>
            LETV (va_up xi49 8 (upd (xi49 8) v5_22.toNatClampNeg y44) : Nat → Nat → Int32) fun nu50 =>
            LETV (nu50 0 31 : Int32) fun y52 =>
            if y52 ≥ v4_22 then (
              LETV ((v5_22 + 1) : Int32) fun w54 =>
              L_qm_lend_22_0 vk n (v3_22 : Int32) (v4_22 : Int32) (w54 : Int32) nu50
            ) else (
              LETV ((v5_22 + 1) : Int32) fun w55 =>
              L_qm_lend_22_0 vk n (v5_22 : Int32) (y52 : Int32) (w55 : Int32) nu50
            )
          ) else (
            LETV (nu22_ 8 v5_22.toNatClampNeg : Int32) fun y35 =>
            LETV (va_up nu22_ 8 (upd (nu22_ 8) v5_22.toNatClampNeg 99) : Nat → Nat → Int32) fun nu36 =>
            LETV (F_sm_routesOf nu36 (vk : Int32) : Nat → Nat → Int32) fun xi40 =>
            LETV (va_up xi40 8 (upd (xi40 8) v5_22.toNatClampNeg y35) : Nat → Nat → Int32) fun nu41 =>
            LETV ((v5_22 + 1) : Int32) fun w43 =>
            L_qm_lend_22_0 vk n (v3_22 : Int32) (v4_22 : Int32) (w43 : Int32) nu41
          )
        ) else (
          LETV (nu22_ 8 v5_22.toNatClampNeg : Int32) fun y21 =>
          LETV (va_up nu22_ 8 (upd (nu22_ 8) v5_22.toNatClampNeg 99) : Nat → Nat → Int32) fun nu22 =>
          LETV (F_sm_routesOf nu22 (vk : Int32) : Nat → Nat → Int32) fun xi26 =>
          LETV (va_up xi26 8 (upd (xi26 8) v5_22.toNatClampNeg y21) : Nat → Nat → Int32) fun nu27 =>
          LETV (nu27 0 31 : Int32) fun y29 =>
          if y29 ≥ v4_22 then (
            LETV ((v5_22 + 1) : Int32) fun w31 =>
            L_qm_lend_22_0 vk n (v3_22 : Int32) (v4_22 : Int32) (w31 : Int32) nu27
          ) else (
            LETV ((v5_22 + 1) : Int32) fun w32 =>
            L_qm_lend_22_0 vk n (v5_22 : Int32) (y29 : Int32) (w32 : Int32) nu27
          )
        )
      )
    )
def F_qm_lend (mu : Nat → Nat → Int32) (vk : Int32) : Int32 × (Nat → Nat → Int32) :=
  LETP (F_sm_askedRoutes mu (vk : Int32)) fun r1 xi1 =>
  if r1 = 0 then (
    L_qm_lend_22_0 vk 10 ((-9) : Int32) (1048576 : Int32) (0 : Int32) xi1
  ) else (
    ((r1 : Int32), xi1)
  )
set_option maxHeartbeats 4000000 in
set_option maxRecDepth 100000 in
/-- qm_cheapest -/
theorem qm_cheapest (l : Launch) (dC : Nat → ClassId) (dI : Nat → Nat → Nat) (cs : Nat → ClassId) (ad : Nat → Nat) (mu : Nat → Nat → Int32) (ok : okR loM hiM mu) (H : Heap) (hP : va_P (dC, dI) vwCl (wR 21 ad (EM cs ad) mu) H) (hD0 : va_D (fun _ => True) (wR 21 ad (EM cs ad) mu)) (vk : Int32) (vr : Int32) : Met l yX12_cheapest (wU yX12_cheapest cX12_cheapest 4 (some .int)) ({ frames := 12, cells := 0, slots := 0, locals := 302 }) (va_Pc [.ref (ad 0), .int vk, .int vr] (sz_P (dC, dI) vwCl (tyM cs) H)) (va_Qi (fun (z : Int32) (xi : Nat → Nat → Int32) => (z, xi) = F_qm_cheapest mu vk vr ∧ okR loM hiM xi ∧ (True) ∧ (∀ k f : Nat, Nat.testBit 510 (gpM k f) = true → xi k f = mu k f)) (fun xi t => va_P (dC, dI) vwCl (wR 21 ad (EM cs ad) xi) t.heap) (va_A (wR 21 ad (EM cs ad) mu) H.size)) 0 0 (va_A (wR 21 ad (EM cs ad) mu) H.size) := by
  refine Met.ofW (cc := cX12_cheapest) (maxL := 4) (ret := (some .int)) (by decide) rfl ?_
  intro p e s m args below meth c s₁ B hml hv
  obtain ⟨rfl, hh, hK, hz⟩ := hv
  have hx := B.exec
  have hb := B.bytes
  have hr := B.returns
  have hts := atoms_spec (ws := (wU yX12_cheapest cX12_cheapest 4 (some .int))) B.pre
  have hown : s.vm.findClass RX12 = some m.cls := findClass_of_methodNamed B.named
  have hlocks := B.notSynchronized
  subst hh
  have hD := hD0.self (sz := s.heap.size)
  have hA : ∀ q : Nat, s.heap.size ≤ q → (va_A (wR 21 ad (EM cs ad) mu) s.heap.size) q := fun q h => Or.inr h
  have hS : va_S (va_A (wR 21 ad (EM cs ad) mu) s.heap.size) s.heap s.heap [] := va_S.rf
  have hl := lv_entry ([.ref (ad 0), .int vk, .int vr]) (n := 4) (Nat.le_of_ble_eq_true rfl)
  rw [lg_entry_eq]
  generalize (lg_sl ([.ref (ad 0), .int vk, .int vr]) ++ List.replicate (4 - (lg_sl ([.ref (ad 0), .int vk, .int vr])).length) Slot.unset).toArray = ls at hl ⊢
  have hl : lv_has ls 4 [(0, .ref (ad 0)), (1, .int vk), (2, .int vr)] := hl
  obtain ⟨fz, hfz⟩ : ∃ z, F_qm_cheapest mu vk vr = z := ⟨_, rfl⟩
  have hF := hfz
  unfold F_qm_cheapest at hF
  refine lv_iload_n hx hb dX12_cheapest_0 rfl (lv_at hl 2 rfl) ?_
  refine cr_i (va_runS (As := [.int vr]) (rest := []) ⟨hx, hb, hml, hown, hts⟩ (sm_isRow l dC dI (tyM cs) s.heap vr) (va_cwS 1 hts (wU_S mw_5_186 mw_5_184 mw_5_185 mw_1_13) rfl rfl rfl (by decide +kernel) ⟨Nat.le_of_ble_eq_true rfl, Nat.le_of_ble_eq_true rfl⟩) ⟨sz_c, sz_m hK hz⟩ rfl rfl hl.1 rfl (lv_room (Nat.le_of_ble_eq_true rfl)) dX12_cheapest_1 ⟨Nat.zero_le _, Nat.zero_le _⟩) hS (fun r1 hw1 locs hS => ?_)
  obtain ⟨hfe1, hw1⟩ := hw1
  rcases hw1 with ⟨rfl, f1⟩ | ⟨rfl, f1⟩
  · have hF := (if_pos hfe1.symm).symm.trans hF
    have f1 : 0 ≤ vr.toInt ∧ vr.toInt ≤ 5 := f1
    refine lv_if_ne (tgt := 11) hx hb dX12_cheapest_4 (by decide) (fun _ => ?_) (fun c => absurd c (by decide))
    refine lv_aload_n hx hb dX12_cheapest_11 rfl (lv_at hl 0 rfl) ?_
    refine lv_iload_n hx hb dX12_cheapest_12 rfl (lv_at hl 1 rfl) ?_
    have hFc := fr_all (wR_D mu hD) hS hA
    refine va_calli (va_runV (As := [.int vk]) (rest := []) ⟨hx, hb, hml, hown, hts⟩ (sm_askedRoutes l dC dI cs ad mu ok s.heap hP ((wR_D mu hD).weaken (fun _ _ _ _ => trivial)) vk) (cwV 1 hts (wU_V mw_6_170 mw_6_167 mw_6_169 mw_0_52 mw_1_13) rfl rfl rfl (by decide +kernel) ⟨Nat.le_of_ble_eq_true rfl, Nat.le_of_ble_eq_true rfl⟩) ⟨sz_c, va_recv hK hP (ci := 12) (q0 := 0) rfl (gM_0 cs ad mu), sz_m hK hz⟩ rfl rfl hl.1 rfl (lv_room (Nat.le_of_ble_eq_true rfl)) dX12_cheapest_13 ⟨Nat.zero_le _, Nat.zero_le _⟩) hS (fun q _ h => hFc q h) hFc (fun r2 xi2 t H2 locs ht hvm hw2 hB hz1 hk1 hS => ?_)
    have hP : va_P (dC, dI) vwCl (wR 21 ad (EM cs ad) xi2) H2 := by rw [← ht]; exact hB
    obtain ⟨hfe2, hw2⟩ := hw2
    have hF := mi_letp hF hfe2
    rcases hw2 with ⟨rfl, ok, f2, hkp2_0⟩ | ⟨z2, ok, hkp2_0⟩
    · have hF := (if_pos rfl).symm.trans hF
      have kp3 : (∀ k f : Nat, Nat.testBit 510 (gpM k f) = true → xi2 k f = mu k f) := kp_t hkp2_0 (by decide) (fun _ _ _ => rfl)
      have f2 : 0 ≤ vk.toInt ∧ vk.toInt ≤ 3 ∧ ((xi2 0 33).toInt = 0 ∨ (xi2 0 35).toInt ≤ 7) := f2
      refine lv_istore_n (lv' := [(3, .int 0), (0, .ref (ad 0)), (1, .int vk), (2, .int vr)]) hx hb dX12_cheapest_16 rfl hl (by decide) rfl (fun ls hl => ?_)
      refine lv_iload_n hx hb dX12_cheapest_17 rfl (lv_at hl 0 rfl) ?_
      refine lv_if_ge (tgt := 23) hx hb dX12_cheapest_18 (by decide) (fun _ => ?_) (fun c => absurd (by decide) c)
      refine lv_aload_n hx hb dX12_cheapest_23 rfl (lv_at hl 1 rfl) ?_
      refine va_get (D := (dC, dI)) (ci := 12) (v := .int (xi2 0 30)) (C := RX12) (T := TX12) (N := 46) hx hb hts inG12 hown hK hP 0 (gM_0 cs ad xi2) rfl 30 (by decide) (hts _ (List.mem_cons_of_mem _ mw_5_71)) (fun _ h9 => h9) rfl dX12_cheapest_24 ?_
      refine lv_topi (fun y5 ey5 => ?_)
      have hF := mi_let hF ey5
      have by5 : y5.toInt = (xi2 0 30).toInt := congrArg Int32.toInt ey5
      refine lv_if_ne (tgt := 33) hx hb dX12_cheapest_27 (by decide) (fun c_6 => ?_) (fun c_6 => ?_)
      · have hF := (if_neg c_6).symm.trans hF
        have c_6 : ¬ y5.toInt = 0 := il_ne c_6
        refine lv_aload_n hx hb dX12_cheapest_33 rfl (lv_at hl 1 rfl) ?_
        refine lv_iload_n hx hb dX12_cheapest_34 rfl (lv_at hl 3 rfl) ?_
        refine lv_aload_n hx hb dX12_cheapest_35 rfl (lv_at hl 1 rfl) ?_
        refine va_get (D := (dC, dI)) (ci := 12) (v := .ref (ad 17)) (C := RX12) (T := TX12) (N := 46) hx hb hts inG12 hown hK hP 0 (gM_0 cs ad xi2) rfl 27 (by decide) (hts _ (List.mem_cons_of_mem _ mw_5_68)) (fun _ h9 => h9) rfl dX12_cheapest_36 ?_
        refine lv_aload_n hx hb dX12_cheapest_39 rfl (lv_at hl 1 rfl) ?_
        refine va_get (D := (dC, dI)) (ci := 12) (v := .int (xi2 0 32)) (C := RX12) (T := TX12) (N := 46) hx hb hts inG12 hown hK hP 0 (gM_0 cs ad xi2) rfl 32 (by decide) (hts _ (List.mem_cons_of_mem _ mw_5_73)) (fun _ h9 => h9) rfl dX12_cheapest_40 ?_
        refine lv_topi (fun y7 ey7 => ?_)
        have hF := mi_let hF ey7
        have by7 : y7.toInt = (xi2 0 32).toInt := congrArg Int32.toInt ey7
        have gy7 : 0 ≤ y7.toInt ∧ y7.toInt ≤ 7 := by rw [ey7]; exact rM_0_32 ok
        have hFc := fr_all (wR_D xi2 hD) hS hA
        refine va_callv (va_runV (As := [.int vr, .ref (ad 17), .int y7]) (rest := []) ⟨hx, hb, hml, hown, hts⟩ (sm_layRoute17 l dC dI cs ad xi2 ok H2 hP ((wR_D xi2 hD).weaken (fun _ _ _ _ => trivial)) vr y7 (by omega)) (cwV 3 hts (wU_V mw_6_195 mw_6_192 mw_6_194 mw_0_58 mw_1_13) rfl rfl rfl (by decide +kernel) ⟨Nat.le_of_ble_eq_true rfl, Nat.le_of_ble_eq_true rfl⟩) ⟨sz_c, va_recv hK hP (ci := 12) (q0 := 0) rfl (gM_0 cs ad xi2), sz_m hK hz⟩ rfl rfl hl.1 rfl (lv_room (Nat.le_of_ble_eq_true rfl)) dX12_cheapest_43 ⟨Nat.zero_le _, Nat.zero_le _⟩) hS (fun q _ h => hFc q h) hFc (fun xi8 t H8 locs ht hvm hw8 hB hz1 hk1 hS => ?_)
        have hP : va_P (dC, dI) vwCl (wR 21 ad (EM cs ad) xi8) H8 := by rw [← ht]; exact hB
        obtain ⟨hfe8, ok, hw8, hkp8_0⟩ := hw8
        have hF := mi_let hF hfe8
        have kp9 : (∀ k f : Nat, Nat.testBit 510 (gpM k f) = true → xi8 k f = mu k f) := kp_t hkp8_0 (by decide) kp3
        refine lv_aload_n hx hb dX12_cheapest_46 rfl (lv_at hl 1 rfl) ?_
        refine va_get (D := (dC, dI)) (ci := 12) (v := .int (xi8 0 31)) (C := RX12) (T := TX12) (N := 46) hx hb hts inG12 hown hK hP 0 (gM_0 cs ad xi8) rfl 31 (by decide) (hts _ (List.mem_cons_of_mem _ mw_5_72)) (fun _ h9 => h9) rfl dX12_cheapest_47 ?_
        refine lv_topi (fun y10 ey10 => ?_)
        have hF := mi_let hF ey10
        have by10 : y10.toInt = (xi8 0 31).toInt := congrArg Int32.toInt ey10
        exact W.iret (v := y10) hx hb hr (fun t ht hW => ⟨⟨y10, xi8, rfl, ⟨hF.trans hfz.symm, ok, trivial, kp9⟩, by first | (subst ht; exact hP) | (rw [ht]; exact hP) | (show va_P (dC, dI) vwCl (wR 21 ad (EM cs ad) xi8) t.heap; rw [ht]; exact hP)⟩, hS.F ht⟩) hS.2.2 dX12_cheapest_50
      · have hF := (if_pos c_6).symm.trans hF
        have c_6 : y5.toInt = 0 := il_eq c_6
        refine lv_bipush (v := (-9)) hx hb dX12_cheapest_30 (by decide) ?_
        exact W.iret (v := (-9)) hx hb hr (fun t ht hW => ⟨⟨(-9), xi2, rfl, ⟨hF.trans hfz.symm, ok, trivial, kp3⟩, by first | (subst ht; exact hP) | (rw [ht]; exact hP) | (show va_P (dC, dI) vwCl (wR 21 ad (EM cs ad) xi2) t.heap; rw [ht]; exact hP)⟩, hS.F ht⟩) hS.2.2 dX12_cheapest_32
    · have hF := (if_neg (show ¬ r2 = 0 from fun h => by have h9 := congrArg Int32.toInt h; have h8 : (0 : Int32).toInt = 0 := rfl; omega)).symm.trans hF
      have kp4 : (∀ k f : Nat, Nat.testBit 510 (gpM k f) = true → xi2 k f = mu k f) := kp_t hkp2_0 (by decide) (fun _ _ _ => rfl)
      skip
      refine lv_istore_n (lv' := [(3, .int r2), (0, .ref (ad 0)), (1, .int vk), (2, .int vr)]) hx hb dX12_cheapest_16 rfl hl (by decide) rfl (fun ls hl => ?_)
      refine lv_iload_n hx hb dX12_cheapest_17 rfl (lv_at hl 0 rfl) ?_
      refine lv_if_ge (tgt := 23) hx hb dX12_cheapest_18 (by decide) (fun c_11 => by have c_11 : 0 ≤ r2.toInt := il_le c_11; exfalso; omega) (fun c_11 => ?_)
      have c_11 : r2.toInt < 0 := il_nle c_11
      refine lv_iload_n hx hb dX12_cheapest_21 rfl (lv_at hl 0 rfl) ?_
      exact W.iret (v := r2) hx hb hr (fun t ht hW => ⟨⟨r2, xi2, rfl, ⟨hF.trans hfz.symm, ok, trivial, kp4⟩, by first | (subst ht; exact hP) | (rw [ht]; exact hP) | (show va_P (dC, dI) vwCl (wR 21 ad (EM cs ad) xi2) t.heap; rw [ht]; exact hP)⟩, hS.F ht⟩) hS.2.2 dX12_cheapest_22
  · have hF := (if_neg (fun h => absurd (hfe1.trans h) (by decide))).symm.trans hF
    have f1 : vr.toInt < 0 ∨ 5 < vr.toInt := f1
    refine lv_if_ne (tgt := 11) hx hb dX12_cheapest_4 (by decide) (fun c => absurd (by decide) c) (fun _ => ?_)
    refine lv_iconst (v := (-1)) hx hb dX12_cheapest_7 (by decide) ?_
    refine lv_goto (tgt := 16) hx hb dX12_cheapest_8 (by decide) ?_
    refine lv_istore_n (lv' := [(3, .int (-1)), (0, .ref (ad 0)), (1, .int vk), (2, .int vr)]) hx hb dX12_cheapest_16 rfl hl (by decide) rfl (fun ls hl => ?_)
    refine lv_iload_n hx hb dX12_cheapest_17 rfl (lv_at hl 0 rfl) ?_
    refine lv_if_ge (tgt := 23) hx hb dX12_cheapest_18 (by decide) (fun c => absurd c (by decide)) (fun _ => ?_)
    refine lv_iload_n hx hb dX12_cheapest_21 rfl (lv_at hl 0 rfl) ?_
    exact W.iret (v := (-1)) hx hb hr (fun t ht hW => ⟨⟨(-1), mu, rfl, ⟨hF.trans hfz.symm, ok, trivial, (fun _ _ _ => rfl)⟩, by first | (subst ht; exact hP) | (rw [ht]; exact hP) | (show va_P (dC, dI) vwCl (wR 21 ad (EM cs ad) mu) t.heap; rw [ht]; exact hP)⟩, hS.F ht⟩) hS.2.2 dX12_cheapest_22
set_option maxHeartbeats 4000000 in
set_option maxRecDepth 100000 in
/-- qm_soonest -/
theorem qm_soonest (l : Launch) (dC : Nat → ClassId) (dI : Nat → Nat → Nat) (cs : Nat → ClassId) (ad : Nat → Nat) (mu : Nat → Nat → Int32) (ok : okR loM hiM mu) (H : Heap) (hP : va_P (dC, dI) vwCl (wR 21 ad (EM cs ad) mu) H) (hD0 : va_D (fun _ => True) (wR 21 ad (EM cs ad) mu)) (vk : Int32) (vr : Int32) : Met l yX12_soonest (wU yX12_soonest cX12_soonest 4 (some .int)) ({ frames := 12, cells := 0, slots := 0, locals := 302 }) (va_Pc [.ref (ad 0), .int vk, .int vr] (sz_P (dC, dI) vwCl (tyM cs) H)) (va_Qi (fun (z : Int32) (xi : Nat → Nat → Int32) => (z, xi) = F_qm_soonest mu vk vr ∧ okR loM hiM xi ∧ (True) ∧ (∀ k f : Nat, Nat.testBit 510 (gpM k f) = true → xi k f = mu k f)) (fun xi t => va_P (dC, dI) vwCl (wR 21 ad (EM cs ad) xi) t.heap) (va_A (wR 21 ad (EM cs ad) mu) H.size)) 0 0 (va_A (wR 21 ad (EM cs ad) mu) H.size) := by
  refine Met.ofW (cc := cX12_soonest) (maxL := 4) (ret := (some .int)) (by decide) rfl ?_
  intro p e s m args below meth c s₁ B hml hv
  obtain ⟨rfl, hh, hK, hz⟩ := hv
  have hx := B.exec
  have hb := B.bytes
  have hr := B.returns
  have hts := atoms_spec (ws := (wU yX12_soonest cX12_soonest 4 (some .int))) B.pre
  have hown : s.vm.findClass RX12 = some m.cls := findClass_of_methodNamed B.named
  have hlocks := B.notSynchronized
  subst hh
  have hD := hD0.self (sz := s.heap.size)
  have hA : ∀ q : Nat, s.heap.size ≤ q → (va_A (wR 21 ad (EM cs ad) mu) s.heap.size) q := fun q h => Or.inr h
  have hS : va_S (va_A (wR 21 ad (EM cs ad) mu) s.heap.size) s.heap s.heap [] := va_S.rf
  have hl := lv_entry ([.ref (ad 0), .int vk, .int vr]) (n := 4) (Nat.le_of_ble_eq_true rfl)
  rw [lg_entry_eq]
  generalize (lg_sl ([.ref (ad 0), .int vk, .int vr]) ++ List.replicate (4 - (lg_sl ([.ref (ad 0), .int vk, .int vr])).length) Slot.unset).toArray = ls at hl ⊢
  have hl : lv_has ls 4 [(0, .ref (ad 0)), (1, .int vk), (2, .int vr)] := hl
  obtain ⟨fz, hfz⟩ : ∃ z, F_qm_soonest mu vk vr = z := ⟨_, rfl⟩
  have hF := hfz
  unfold F_qm_soonest at hF
  obtain ⟨y1, ey1⟩ : ∃ z : Int32, z = mu 0 39 := ⟨_, rfl⟩
  have hF := mi_let hF ey1
  have by1 : y1.toInt = (mu 0 39).toInt := congrArg Int32.toInt ey1
  have gy1 : -9 ≤ y1.toInt ∧ y1.toInt ≤ 3 := by rw [ey1]; exact rM_0_39 ok
  obtain ⟨y2, ey2⟩ : ∃ z : Int32, z = mu 0 33 := ⟨_, rfl⟩
  have hF := mi_let hF ey2
  have by2 : y2.toInt = (mu 0 33).toInt := congrArg Int32.toInt ey2
  obtain ⟨y3, ey3⟩ : ∃ z : Int32, z = mu 0 35 := ⟨_, rfl⟩
  have hF := mi_let hF ey3
  have by3 : y3.toInt = (mu 0 35).toInt := congrArg Int32.toInt ey3
  refine lv_iload_n hx hb dX12_soonest_0 rfl (lv_at hl 2 rfl) ?_
  refine cr_i (va_runS (As := [.int vr]) (rest := []) ⟨hx, hb, hml, hown, hts⟩ (sm_isRow l dC dI (tyM cs) s.heap vr) (va_cwS 1 hts (wU_S mw_5_186 mw_5_184 mw_5_185 mw_1_13) rfl rfl rfl (by decide +kernel) ⟨Nat.le_of_ble_eq_true rfl, Nat.le_of_ble_eq_true rfl⟩) ⟨sz_c, sz_m hK hz⟩ rfl rfl hl.1 rfl (lv_room (Nat.le_of_ble_eq_true rfl)) dX12_soonest_1 ⟨Nat.zero_le _, Nat.zero_le _⟩) hS (fun r4 hw4 locs hS => ?_)
  obtain ⟨hfe4, hw4⟩ := hw4
  rcases hw4 with ⟨rfl, f4⟩ | ⟨rfl, f4⟩
  · have hF := (if_pos hfe4.symm).symm.trans hF
    have f4 : 0 ≤ vr.toInt ∧ vr.toInt ≤ 5 := f4
    refine lv_if_ne (tgt := 11) hx hb dX12_soonest_4 (by decide) (fun _ => ?_) (fun c => absurd c (by decide))
    refine lv_aload_n hx hb dX12_soonest_11 rfl (lv_at hl 0 rfl) ?_
    refine lv_iload_n hx hb dX12_soonest_12 rfl (lv_at hl 1 rfl) ?_
    have hFc := fr_all (wR_D mu hD) hS hA
    refine va_calli (va_runV (As := [.int vk]) (rest := []) ⟨hx, hb, hml, hown, hts⟩ (sm_askedRoutes l dC dI cs ad mu ok s.heap hP ((wR_D mu hD).weaken (fun _ _ _ _ => trivial)) vk) (cwV 1 hts (wU_V mw_6_170 mw_6_167 mw_6_169 mw_0_52 mw_1_13) rfl rfl rfl (by decide +kernel) ⟨Nat.le_of_ble_eq_true rfl, Nat.le_of_ble_eq_true rfl⟩) ⟨sz_c, va_recv hK hP (ci := 12) (q0 := 0) rfl (gM_0 cs ad mu), sz_m hK hz⟩ rfl rfl hl.1 rfl (lv_room (Nat.le_of_ble_eq_true rfl)) dX12_soonest_13 ⟨Nat.zero_le _, Nat.zero_le _⟩) hS (fun q _ h => hFc q h) hFc (fun r5 xi5 t H5 locs ht hvm hw5 hB hz1 hk1 hS => ?_)
    have hP : va_P (dC, dI) vwCl (wR 21 ad (EM cs ad) xi5) H5 := by rw [← ht]; exact hB
    obtain ⟨hfe5, hw5⟩ := hw5
    have hF := mi_letp hF hfe5
    rcases hw5 with ⟨rfl, ok, f5, hkp5_0⟩ | ⟨z5, ok, hkp5_0⟩
    · have hF := (if_pos rfl).symm.trans hF
      have kp6 : (∀ k f : Nat, Nat.testBit 510 (gpM k f) = true → xi5 k f = mu k f) := kp_t hkp5_0 (by decide) (fun _ _ _ => rfl)
      have f5 : 0 ≤ vk.toInt ∧ vk.toInt ≤ 3 ∧ ((xi5 0 33).toInt = 0 ∨ (xi5 0 35).toInt ≤ 7) := f5
      refine lv_istore_n (lv' := [(3, .int 0), (0, .ref (ad 0)), (1, .int vk), (2, .int vr)]) hx hb dX12_soonest_16 rfl hl (by decide) rfl (fun ls hl => ?_)
      refine lv_iload_n hx hb dX12_soonest_17 rfl (lv_at hl 0 rfl) ?_
      refine lv_if_ge (tgt := 23) hx hb dX12_soonest_18 (by decide) (fun _ => ?_) (fun c => absurd (by decide) c)
      refine lv_aload_n hx hb dX12_soonest_23 rfl (lv_at hl 1 rfl) ?_
      refine va_get (D := (dC, dI)) (ci := 12) (v := .int (xi5 0 33)) (C := RX12) (T := TX12) (N := 46) hx hb hts inG12 hown hK hP 0 (gM_0 cs ad xi5) rfl 33 (by decide) (hts _ (List.mem_cons_of_mem _ mw_5_74)) (fun _ h9 => h9) rfl dX12_soonest_24 ?_
      refine lv_topi (fun y8 ey8 => ?_)
      have hF := mi_let hF ey8
      have by8 : y8.toInt = (xi5 0 33).toInt := congrArg Int32.toInt ey8
      refine lv_if_ne (tgt := 33) hx hb dX12_soonest_27 (by decide) (fun c_9 => ?_) (fun c_9 => ?_)
      · have hF := (if_neg c_9).symm.trans hF
        have c_9 : ¬ y8.toInt = 0 := il_ne c_9
        refine lv_aload_n hx hb dX12_soonest_33 rfl (lv_at hl 1 rfl) ?_
        refine lv_iload_n hx hb dX12_soonest_34 rfl (lv_at hl 3 rfl) ?_
        refine lv_aload_n hx hb dX12_soonest_35 rfl (lv_at hl 1 rfl) ?_
        refine va_get (D := (dC, dI)) (ci := 12) (v := .ref (ad 18)) (C := RX12) (T := TX12) (N := 46) hx hb hts inG12 hown hK hP 0 (gM_0 cs ad xi5) rfl 28 (by decide) (hts _ (List.mem_cons_of_mem _ mw_5_69)) (fun _ h9 => h9) rfl dX12_soonest_36 ?_
        refine lv_aload_n hx hb dX12_soonest_39 rfl (lv_at hl 1 rfl) ?_
        refine va_get (D := (dC, dI)) (ci := 12) (v := .int (xi5 0 35)) (C := RX12) (T := TX12) (N := 46) hx hb hts inG12 hown hK hP 0 (gM_0 cs ad xi5) rfl 35 (by decide) (hts _ (List.mem_cons_of_mem _ mw_5_76)) (fun _ h9 => h9) rfl dX12_soonest_40 ?_
        refine lv_topi (fun y10 ey10 => ?_)
        have hF := mi_let hF ey10
        have by10 : y10.toInt = (xi5 0 35).toInt := congrArg Int32.toInt ey10
        have hFc := fr_all (wR_D xi5 hD) hS hA
        refine va_callv (va_runV (As := [.int vr, .ref (ad 18), .int y10]) (rest := []) ⟨hx, hb, hml, hown, hts⟩ (sm_layRoute18 l dC dI cs ad xi5 ok H5 hP ((wR_D xi5 hD).weaken (fun _ _ _ _ => trivial)) vr y10 (by omega)) (cwV 3 hts (wU_V mw_6_195 mw_6_192 mw_6_194 mw_0_58 mw_1_13) rfl rfl rfl (by decide +kernel) ⟨Nat.le_of_ble_eq_true rfl, Nat.le_of_ble_eq_true rfl⟩) ⟨sz_c, va_recv hK hP (ci := 12) (q0 := 0) rfl (gM_0 cs ad xi5), sz_m hK hz⟩ rfl rfl hl.1 rfl (lv_room (Nat.le_of_ble_eq_true rfl)) dX12_soonest_43 ⟨Nat.zero_le _, Nat.zero_le _⟩) hS (fun q _ h => hFc q h) hFc (fun xi11 t H11 locs ht hvm hw11 hB hz1 hk1 hS => ?_)
        have hP : va_P (dC, dI) vwCl (wR 21 ad (EM cs ad) xi11) H11 := by rw [← ht]; exact hB
        obtain ⟨hfe11, ok, hw11, hkp11_0⟩ := hw11
        have hF := mi_let hF hfe11
        have kp12 : (∀ k f : Nat, Nat.testBit 510 (gpM k f) = true → xi11 k f = mu k f) := kp_t hkp11_0 (by decide) kp6
        obtain ⟨y13, ey13⟩ : ∃ z : Int32, z = xi11 0 39 := ⟨_, rfl⟩
        have hF := mi_let hF ey13
        have by13 : y13.toInt = (xi11 0 39).toInt := congrArg Int32.toInt ey13
        have gy13 : -9 ≤ y13.toInt ∧ y13.toInt ≤ 3 := by rw [ey13]; exact rM_0_39 ok
        obtain ⟨y14, ey14⟩ : ∃ z : Int32, z = xi11 0 33 := ⟨_, rfl⟩
        have hF := mi_let hF ey14
        have by14 : y14.toInt = (xi11 0 33).toInt := congrArg Int32.toInt ey14
        obtain ⟨y15, ey15⟩ : ∃ z : Int32, z = xi11 0 35 := ⟨_, rfl⟩
        have hF := mi_let hF ey15
        have by15 : y15.toInt = (xi11 0 35).toInt := congrArg Int32.toInt ey15
        refine lv_aload_n hx hb dX12_soonest_46 rfl (lv_at hl 1 rfl) ?_
        refine lv_aload_n hx hb dX12_soonest_47 rfl (lv_at hl 1 rfl) ?_
        refine va_get (D := (dC, dI)) (ci := 12) (v := .int (xi11 0 34)) (C := RX12) (T := TX12) (N := 46) hx hb hts inG12 hown hK hP 0 (gM_0 cs ad xi11) rfl 34 (by decide) (hts _ (List.mem_cons_of_mem _ mw_5_75)) (fun _ h9 => h9) rfl dX12_soonest_48 ?_
        refine lv_topi (fun y16 ey16 => ?_)
        have hF := mi_let hF ey16
        have by16 : y16.toInt = (xi11 0 34).toInt := congrArg Int32.toInt ey16
        refine lv_aload_n hx hb dX12_soonest_51 rfl (lv_at hl 1 rfl) ?_
        refine va_get (D := (dC, dI)) (ci := 12) (v := .int (xi11 0 35)) (C := RX12) (T := TX12) (N := 46) hx hb hts inG12 hown hK hP 0 (gM_0 cs ad xi11) rfl 35 (by decide) (hts _ (List.mem_cons_of_mem _ mw_5_76)) (fun _ h9 => h9) rfl dX12_soonest_52 ?_
        refine lq_i y15 ey15.symm ?_
        refine lv_iconst (v := 1) hx hb dX12_soonest_55 (by decide) ?_
        refine lv_isub hx hb dX12_soonest_56 ?_
        refine lv_topi (fun t17 et17 => ?_)
        have hF := mi_let hF et17
        have hFc := fr_all (wR_D xi11 hD) hS hA
        refine va_calli (va_runV (As := [.int y16, .int t17]) (rest := []) ⟨hx, hb, hml, hown, hts⟩ (sm_ask l dC dI cs ad xi11 ok H11 hP ((wR_D xi11 hD).weaken (fun _ _ _ _ => trivial)) y16 t17) (cwV 2 hts (wU_V mw_5_213 mw_5_210 mw_5_212 mw_0_30 mw_1_13) rfl rfl rfl (by decide +kernel) ⟨Nat.le_of_ble_eq_true rfl, Nat.le_of_ble_eq_true rfl⟩) ⟨sz_c, va_recv hK hP (ci := 12) (q0 := 0) rfl (gM_0 cs ad xi11), sz_m hK hz⟩ rfl rfl hl.1 rfl (lv_room (Nat.le_of_ble_eq_true rfl)) dX12_soonest_57 ⟨Nat.zero_le _, Nat.zero_le _⟩) hS (fun q _ h => hFc q h) hFc (fun r18 xi18 t H18 locs ht hvm hw18 hB hz1 hk1 hS => ?_)
        have hP : va_P (dC, dI) vwCl (wR 21 ad (EM cs ad) xi18) H18 := by rw [← ht]; exact hB
        obtain ⟨hfe18, ok, hw18, hkp18_0⟩ := hw18
        have hF := mi_letp hF hfe18
        have kp19 : (∀ k f : Nat, Nat.testBit 510 (gpM k f) = true → xi18 k f = mu k f) := kp_t hkp18_0 (by decide) kp12
        obtain ⟨y20, ey20⟩ : ∃ z : Int32, z = xi18 0 39 := ⟨_, rfl⟩
        have hF := mi_let hF ey20
        have by20 : y20.toInt = (xi18 0 39).toInt := congrArg Int32.toInt ey20
        have gy20 : -9 ≤ y20.toInt ∧ y20.toInt ≤ 3 := by rw [ey20]; exact rM_0_39 ok
        obtain ⟨y21, ey21⟩ : ∃ z : Int32, z = xi18 0 33 := ⟨_, rfl⟩
        have hF := mi_let hF ey21
        have by21 : y21.toInt = (xi18 0 33).toInt := congrArg Int32.toInt ey21
        obtain ⟨y22, ey22⟩ : ∃ z : Int32, z = xi18 0 35 := ⟨_, rfl⟩
        have hF := mi_let hF ey22
        have by22 : y22.toInt = (xi18 0 35).toInt := congrArg Int32.toInt ey22
        have gr18 : r18.toInt = t17.toInt := hw18
        exact W.iret (v := r18) hx hb hr (fun t ht hW => ⟨⟨r18, xi18, rfl, ⟨hF.trans hfz.symm, ok, trivial, kp19⟩, by first | (subst ht; exact hP) | (rw [ht]; exact hP) | (show va_P (dC, dI) vwCl (wR 21 ad (EM cs ad) xi18) t.heap; rw [ht]; exact hP)⟩, hS.F ht⟩) hS.2.2 dX12_soonest_60
      · have hF := (if_pos c_9).symm.trans hF
        have c_9 : y8.toInt = 0 := il_eq c_9
        refine lv_bipush (v := (-9)) hx hb dX12_soonest_30 (by decide) ?_
        exact W.iret (v := (-9)) hx hb hr (fun t ht hW => ⟨⟨(-9), xi5, rfl, ⟨hF.trans hfz.symm, ok, trivial, kp6⟩, by first | (subst ht; exact hP) | (rw [ht]; exact hP) | (show va_P (dC, dI) vwCl (wR 21 ad (EM cs ad) xi5) t.heap; rw [ht]; exact hP)⟩, hS.F ht⟩) hS.2.2 dX12_soonest_32
    · have hF := (if_neg (show ¬ r5 = 0 from fun h => by have h9 := congrArg Int32.toInt h; have h8 : (0 : Int32).toInt = 0 := rfl; omega)).symm.trans hF
      have kp7 : (∀ k f : Nat, Nat.testBit 510 (gpM k f) = true → xi5 k f = mu k f) := kp_t hkp5_0 (by decide) (fun _ _ _ => rfl)
      skip
      refine lv_istore_n (lv' := [(3, .int r5), (0, .ref (ad 0)), (1, .int vk), (2, .int vr)]) hx hb dX12_soonest_16 rfl hl (by decide) rfl (fun ls hl => ?_)
      refine lv_iload_n hx hb dX12_soonest_17 rfl (lv_at hl 0 rfl) ?_
      refine lv_if_ge (tgt := 23) hx hb dX12_soonest_18 (by decide) (fun c_23 => by have c_23 : 0 ≤ r5.toInt := il_le c_23; exfalso; omega) (fun c_23 => ?_)
      have c_23 : r5.toInt < 0 := il_nle c_23
      refine lv_iload_n hx hb dX12_soonest_21 rfl (lv_at hl 0 rfl) ?_
      exact W.iret (v := r5) hx hb hr (fun t ht hW => ⟨⟨r5, xi5, rfl, ⟨hF.trans hfz.symm, ok, trivial, kp7⟩, by first | (subst ht; exact hP) | (rw [ht]; exact hP) | (show va_P (dC, dI) vwCl (wR 21 ad (EM cs ad) xi5) t.heap; rw [ht]; exact hP)⟩, hS.F ht⟩) hS.2.2 dX12_soonest_22
  · have hF := (if_neg (fun h => absurd (hfe4.trans h) (by decide))).symm.trans hF
    have f4 : vr.toInt < 0 ∨ 5 < vr.toInt := f4
    refine lv_if_ne (tgt := 11) hx hb dX12_soonest_4 (by decide) (fun c => absurd (by decide) c) (fun _ => ?_)
    refine lv_iconst (v := (-1)) hx hb dX12_soonest_7 (by decide) ?_
    refine lv_goto (tgt := 16) hx hb dX12_soonest_8 (by decide) ?_
    refine lv_istore_n (lv' := [(3, .int (-1)), (0, .ref (ad 0)), (1, .int vk), (2, .int vr)]) hx hb dX12_soonest_16 rfl hl (by decide) rfl (fun ls hl => ?_)
    refine lv_iload_n hx hb dX12_soonest_17 rfl (lv_at hl 0 rfl) ?_
    refine lv_if_ge (tgt := 23) hx hb dX12_soonest_18 (by decide) (fun c => absurd c (by decide)) (fun _ => ?_)
    refine lv_iload_n hx hb dX12_soonest_21 rfl (lv_at hl 0 rfl) ?_
    exact W.iret (v := (-1)) hx hb hr (fun t ht hW => ⟨⟨(-1), mu, rfl, ⟨hF.trans hfz.symm, ok, trivial, (fun _ _ _ => rfl)⟩, by first | (subst ht; exact hP) | (rw [ht]; exact hP) | (show va_P (dC, dI) vwCl (wR 21 ad (EM cs ad) mu) t.heap; rw [ht]; exact hP)⟩, hS.F ht⟩) hS.2.2 dX12_soonest_22
set_option maxHeartbeats 4000000 in
set_option maxRecDepth 100000 in
/-- qm_comes -/
theorem qm_comes (l : Launch) (dC : Nat → ClassId) (dI : Nat → Nat → Nat) (cs : Nat → ClassId) (ad : Nat → Nat) (mu : Nat → Nat → Int32) (ok : okR loM hiM mu) (H : Heap) (hP : va_P (dC, dI) vwCl (wR 21 ad (EM cs ad) mu) H) (hD0 : va_D (fun _ => True) (wR 21 ad (EM cs ad) mu)) (vk : Int32) : Met l yX12_comes (wU yX12_comes cX12_comes 3 (some .int)) ({ frames := 12, cells := 0, slots := 0, locals := 302 }) (va_Pc [.ref (ad 0), .int vk] (sz_P (dC, dI) vwCl (tyM cs) H)) (va_Qi (fun (z : Int32) (xi : Nat → Nat → Int32) => (z, xi) = F_qm_comes mu vk ∧ okR loM hiM xi ∧ (True) ∧ (∀ k f : Nat, Nat.testBit 510 (gpM k f) = true → xi k f = mu k f)) (fun xi t => va_P (dC, dI) vwCl (wR 21 ad (EM cs ad) xi) t.heap) (va_A (wR 21 ad (EM cs ad) mu) H.size)) 0 0 (va_A (wR 21 ad (EM cs ad) mu) H.size) := by
  refine Met.ofW (cc := cX12_comes) (maxL := 3) (ret := (some .int)) (by decide) rfl ?_
  intro p e s m args below meth c s₁ B hml hv
  obtain ⟨rfl, hh, hK, hz⟩ := hv
  have hx := B.exec
  have hb := B.bytes
  have hr := B.returns
  have hts := atoms_spec (ws := (wU yX12_comes cX12_comes 3 (some .int))) B.pre
  have hown : s.vm.findClass RX12 = some m.cls := findClass_of_methodNamed B.named
  have hlocks := B.notSynchronized
  subst hh
  have hD := hD0.self (sz := s.heap.size)
  have hA : ∀ q : Nat, s.heap.size ≤ q → (va_A (wR 21 ad (EM cs ad) mu) s.heap.size) q := fun q h => Or.inr h
  have hS : va_S (va_A (wR 21 ad (EM cs ad) mu) s.heap.size) s.heap s.heap [] := va_S.rf
  have hl := lv_entry ([.ref (ad 0), .int vk]) (n := 3) (Nat.le_of_ble_eq_true rfl)
  rw [lg_entry_eq]
  generalize (lg_sl ([.ref (ad 0), .int vk]) ++ List.replicate (3 - (lg_sl ([.ref (ad 0), .int vk])).length) Slot.unset).toArray = ls at hl ⊢
  have hl : lv_has ls 3 [(0, .ref (ad 0)), (1, .int vk)] := hl
  obtain ⟨fz, hfz⟩ : ∃ z, F_qm_comes mu vk = z := ⟨_, rfl⟩
  have hF := hfz
  unfold F_qm_comes at hF
  refine lv_aload_n hx hb dX12_comes_0 rfl (lv_at hl 0 rfl) ?_
  refine lv_iload_n hx hb dX12_comes_1 rfl (lv_at hl 1 rfl) ?_
  have hFc := fr_all (wR_D mu hD) hS hA
  refine va_calli (va_runV (As := [.int vk]) (rest := []) ⟨hx, hb, hml, hown, hts⟩ (sm_askedRoutes l dC dI cs ad mu ok s.heap hP ((wR_D mu hD).weaken (fun _ _ _ _ => trivial)) vk) (cwV 1 hts (wU_V mw_6_170 mw_6_167 mw_6_169 mw_0_52 mw_1_13) rfl rfl rfl (by decide +kernel) ⟨Nat.le_of_ble_eq_true rfl, Nat.le_of_ble_eq_true rfl⟩) ⟨sz_c, va_recv hK hP (ci := 12) (q0 := 0) rfl (gM_0 cs ad mu), sz_m hK hz⟩ rfl rfl hl.1 rfl (lv_room (Nat.le_of_ble_eq_true rfl)) dX12_comes_2 ⟨Nat.zero_le _, Nat.zero_le _⟩) hS (fun q _ h => hFc q h) hFc (fun r1 xi1 t H1 locs ht hvm hw1 hB hz1 hk1 hS => ?_)
  have hP : va_P (dC, dI) vwCl (wR 21 ad (EM cs ad) xi1) H1 := by rw [← ht]; exact hB
  obtain ⟨hfe1, hw1⟩ := hw1
  have hF := mi_letp hF hfe1
  rcases hw1 with ⟨rfl, ok, f1, hkp1_0⟩ | ⟨z1, ok, hkp1_0⟩
  · have hF := (if_pos rfl).symm.trans hF
    have kp2 : (∀ k f : Nat, Nat.testBit 510 (gpM k f) = true → xi1 k f = mu k f) := kp_t hkp1_0 (by decide) (fun _ _ _ => rfl)
    have f1 : 0 ≤ vk.toInt ∧ vk.toInt ≤ 3 ∧ ((xi1 0 33).toInt = 0 ∨ (xi1 0 35).toInt ≤ 7) := f1
    refine lv_istore_n (lv' := [(2, .int 0), (0, .ref (ad 0)), (1, .int vk)]) hx hb dX12_comes_5 rfl hl (by decide) rfl (fun ls hl => ?_)
    refine lv_iload_n hx hb dX12_comes_6 rfl (lv_at hl 0 rfl) ?_
    refine lv_if_ge (tgt := 14) hx hb dX12_comes_7 (by decide) (fun _ => ?_) (fun c => absurd (by decide) c)
    refine lv_aload_n hx hb dX12_comes_14 rfl (lv_at hl 1 rfl) ?_
    refine lv_aload_n hx hb dX12_comes_15 rfl (lv_at hl 1 rfl) ?_
    refine va_get (D := (dC, dI)) (ci := 12) (v := .int (xi1 0 30)) (C := RX12) (T := TX12) (N := 46) hx hb hts inG12 hown hK hP 0 (gM_0 cs ad xi1) rfl 30 (by decide) (hts _ (List.mem_cons_of_mem _ mw_5_71)) (fun _ h9 => h9) rfl dX12_comes_16 ?_
    refine lv_topi (fun y4 ey4 => ?_)
    have hF := mi_let hF ey4
    have by4 : y4.toInt = (xi1 0 30).toInt := congrArg Int32.toInt ey4
    refine lv_aload_n hx hb dX12_comes_19 rfl (lv_at hl 1 rfl) ?_
    refine va_get (D := (dC, dI)) (ci := 12) (v := .int (xi1 0 33)) (C := RX12) (T := TX12) (N := 46) hx hb hts inG12 hown hK hP 0 (gM_0 cs ad xi1) rfl 33 (by decide) (hts _ (List.mem_cons_of_mem _ mw_5_74)) (fun _ h9 => h9) rfl dX12_comes_20 ?_
    refine lv_topi (fun y5 ey5 => ?_)
    have hF := mi_let hF ey5
    have by5 : y5.toInt = (xi1 0 33).toInt := congrArg Int32.toInt ey5
    have hFc := fr_all (wR_D xi1 hD) hS hA
    refine va_calli (va_runV (As := [.int y4, .int y5]) (rest := []) ⟨hx, hb, hml, hown, hts⟩ (sm_ask l dC dI cs ad xi1 ok H1 hP ((wR_D xi1 hD).weaken (fun _ _ _ _ => trivial)) y4 y5) (cwV 2 hts (wU_V mw_5_213 mw_5_210 mw_5_212 mw_0_30 mw_1_13) rfl rfl rfl (by decide +kernel) ⟨Nat.le_of_ble_eq_true rfl, Nat.le_of_ble_eq_true rfl⟩) ⟨sz_c, va_recv hK hP (ci := 12) (q0 := 0) rfl (gM_0 cs ad xi1), sz_m hK hz⟩ rfl rfl hl.1 rfl (lv_room (Nat.le_of_ble_eq_true rfl)) dX12_comes_23 ⟨Nat.zero_le _, Nat.zero_le _⟩) hS (fun q _ h => hFc q h) hFc (fun r6 xi6 t H6 locs ht hvm hw6 hB hz1 hk1 hS => ?_)
    have hP : va_P (dC, dI) vwCl (wR 21 ad (EM cs ad) xi6) H6 := by rw [← ht]; exact hB
    obtain ⟨hfe6, ok, hw6, hkp6_0⟩ := hw6
    have hF := mi_letp hF hfe6
    have kp7 : (∀ k f : Nat, Nat.testBit 510 (gpM k f) = true → xi6 k f = mu k f) := kp_t hkp6_0 (by decide) kp2
    have gr6 : r6.toInt = y5.toInt := hw6
    exact W.iret (v := r6) hx hb hr (fun t ht hW => ⟨⟨r6, xi6, rfl, ⟨hF.trans hfz.symm, ok, trivial, kp7⟩, by first | (subst ht; exact hP) | (rw [ht]; exact hP) | (show va_P (dC, dI) vwCl (wR 21 ad (EM cs ad) xi6) t.heap; rw [ht]; exact hP)⟩, hS.F ht⟩) hS.2.2 dX12_comes_26
  · have hF := (if_neg (show ¬ r1 = 0 from fun h => by have h9 := congrArg Int32.toInt h; have h8 : (0 : Int32).toInt = 0 := rfl; omega)).symm.trans hF
    have kp3 : (∀ k f : Nat, Nat.testBit 510 (gpM k f) = true → xi1 k f = mu k f) := kp_t hkp1_0 (by decide) (fun _ _ _ => rfl)
    skip
    refine lv_istore_n (lv' := [(2, .int r1), (0, .ref (ad 0)), (1, .int vk)]) hx hb dX12_comes_5 rfl hl (by decide) rfl (fun ls hl => ?_)
    refine lv_iload_n hx hb dX12_comes_6 rfl (lv_at hl 0 rfl) ?_
    refine lv_if_ge (tgt := 14) hx hb dX12_comes_7 (by decide) (fun c_8 => by have c_8 : 0 ≤ r1.toInt := il_le c_8; exfalso; omega) (fun c_8 => ?_)
    have c_8 : r1.toInt < 0 := il_nle c_8
    refine lv_iload_n hx hb dX12_comes_10 rfl (lv_at hl 0 rfl) ?_
    refine lv_goto (tgt := 26) hx hb dX12_comes_11 (by decide) ?_
    exact W.iret (v := r1) hx hb hr (fun t ht hW => ⟨⟨r1, xi1, rfl, ⟨hF.trans hfz.symm, ok, trivial, kp3⟩, by first | (subst ht; exact hP) | (rw [ht]; exact hP) | (show va_P (dC, dI) vwCl (wR 21 ad (EM cs ad) xi1) t.heap; rw [ht]; exact hP)⟩, hS.F ht⟩) hS.2.2 dX12_comes_26
set_option maxHeartbeats 4000000 in
set_option maxRecDepth 100000 in
/-- qm_bars -/
theorem qm_bars (l : Launch) (dC : Nat → ClassId) (dI : Nat → Nat → Nat) (cs : Nat → ClassId) (ad : Nat → Nat) (mu : Nat → Nat → Int32) (ok : okR loM hiM mu) (H : Heap) (hP : va_P (dC, dI) vwCl (wR 21 ad (EM cs ad) mu) H) (hD0 : va_D (fun _ => True) (wR 21 ad (EM cs ad) mu)) (vk : Int32) : Met l yX12_bars (wU yX12_bars cX12_bars 3 (some .int)) ({ frames := 12, cells := 0, slots := 0, locals := 302 }) (va_Pc [.ref (ad 0), .int vk] (sz_P (dC, dI) vwCl (tyM cs) H)) (va_Qi (fun (z : Int32) (xi : Nat → Nat → Int32) => (z, xi) = F_qm_bars mu vk ∧ okR loM hiM xi ∧ (True) ∧ (∀ k f : Nat, Nat.testBit 510 (gpM k f) = true → xi k f = mu k f)) (fun xi t => va_P (dC, dI) vwCl (wR 21 ad (EM cs ad) xi) t.heap) (va_A (wR 21 ad (EM cs ad) mu) H.size)) 0 0 (va_A (wR 21 ad (EM cs ad) mu) H.size) := by
  refine Met.ofW (cc := cX12_bars) (maxL := 3) (ret := (some .int)) (by decide) rfl ?_
  intro p e s m args below meth c s₁ B hml hv
  obtain ⟨rfl, hh, hK, hz⟩ := hv
  have hx := B.exec
  have hb := B.bytes
  have hr := B.returns
  have hts := atoms_spec (ws := (wU yX12_bars cX12_bars 3 (some .int))) B.pre
  have hown : s.vm.findClass RX12 = some m.cls := findClass_of_methodNamed B.named
  have hlocks := B.notSynchronized
  subst hh
  have hD := hD0.self (sz := s.heap.size)
  have hA : ∀ q : Nat, s.heap.size ≤ q → (va_A (wR 21 ad (EM cs ad) mu) s.heap.size) q := fun q h => Or.inr h
  have hS : va_S (va_A (wR 21 ad (EM cs ad) mu) s.heap.size) s.heap s.heap [] := va_S.rf
  have hl := lv_entry ([.ref (ad 0), .int vk]) (n := 3) (Nat.le_of_ble_eq_true rfl)
  rw [lg_entry_eq]
  generalize (lg_sl ([.ref (ad 0), .int vk]) ++ List.replicate (3 - (lg_sl ([.ref (ad 0), .int vk])).length) Slot.unset).toArray = ls at hl ⊢
  have hl : lv_has ls 3 [(0, .ref (ad 0)), (1, .int vk)] := hl
  obtain ⟨fz, hfz⟩ : ∃ z, F_qm_bars mu vk = z := ⟨_, rfl⟩
  have hF := hfz
  unfold F_qm_bars at hF
  refine lv_aload_n hx hb dX12_bars_0 rfl (lv_at hl 0 rfl) ?_
  refine lv_iload_n hx hb dX12_bars_1 rfl (lv_at hl 1 rfl) ?_
  have hFc := fr_all (wR_D mu hD) hS hA
  refine va_calli (va_runV (As := [.int vk]) (rest := []) ⟨hx, hb, hml, hown, hts⟩ (sm_askedRoutes l dC dI cs ad mu ok s.heap hP ((wR_D mu hD).weaken (fun _ _ _ _ => trivial)) vk) (cwV 1 hts (wU_V mw_6_170 mw_6_167 mw_6_169 mw_0_52 mw_1_13) rfl rfl rfl (by decide +kernel) ⟨Nat.le_of_ble_eq_true rfl, Nat.le_of_ble_eq_true rfl⟩) ⟨sz_c, va_recv hK hP (ci := 12) (q0 := 0) rfl (gM_0 cs ad mu), sz_m hK hz⟩ rfl rfl hl.1 rfl (lv_room (Nat.le_of_ble_eq_true rfl)) dX12_bars_2 ⟨Nat.zero_le _, Nat.zero_le _⟩) hS (fun q _ h => hFc q h) hFc (fun r1 xi1 t H1 locs ht hvm hw1 hB hz1 hk1 hS => ?_)
  have hP : va_P (dC, dI) vwCl (wR 21 ad (EM cs ad) xi1) H1 := by rw [← ht]; exact hB
  obtain ⟨hfe1, hw1⟩ := hw1
  have hF := mi_letp hF hfe1
  rcases hw1 with ⟨rfl, ok, f1, hkp1_0⟩ | ⟨z1, ok, hkp1_0⟩
  · have hF := (if_pos rfl).symm.trans hF
    have kp2 : (∀ k f : Nat, Nat.testBit 510 (gpM k f) = true → xi1 k f = mu k f) := kp_t hkp1_0 (by decide) (fun _ _ _ => rfl)
    have f1 : 0 ≤ vk.toInt ∧ vk.toInt ≤ 3 ∧ ((xi1 0 33).toInt = 0 ∨ (xi1 0 35).toInt ≤ 7) := f1
    refine lv_istore_n (lv' := [(2, .int 0), (0, .ref (ad 0)), (1, .int vk)]) hx hb dX12_bars_5 rfl hl (by decide) rfl (fun ls hl => ?_)
    refine lv_iload_n hx hb dX12_bars_6 rfl (lv_at hl 0 rfl) ?_
    refine lv_if_ge (tgt := 14) hx hb dX12_bars_7 (by decide) (fun _ => ?_) (fun c => absurd (by decide) c)
    refine lv_aload_n hx hb dX12_bars_14 rfl (lv_at hl 1 rfl) ?_
    refine va_get (D := (dC, dI)) (ci := 12) (v := .int (xi1 0 33)) (C := RX12) (T := TX12) (N := 46) hx hb hts inG12 hown hK hP 0 (gM_0 cs ad xi1) rfl 33 (by decide) (hts _ (List.mem_cons_of_mem _ mw_5_74)) (fun _ h9 => h9) rfl dX12_bars_15 ?_
    refine lv_topi (fun y4 ey4 => ?_)
    have hF := mi_let hF ey4
    have by4 : y4.toInt = (xi1 0 33).toInt := congrArg Int32.toInt ey4
    refine lv_if_ne (tgt := 25) hx hb dX12_bars_18 (by decide) (fun c_5 => ?_) (fun c_5 => ?_)
    · have hF := (if_neg c_5).symm.trans hF
      have c_5 : ¬ y4.toInt = 0 := il_ne c_5
      refine lv_aload_n hx hb dX12_bars_25 rfl (lv_at hl 1 rfl) ?_
      refine va_get (D := (dC, dI)) (ci := 12) (v := .int (xi1 0 36)) (C := RX12) (T := TX12) (N := 46) hx hb hts inG12 hown hK hP 0 (gM_0 cs ad xi1) rfl 36 (by decide) (hts _ (List.mem_cons_of_mem _ mw_5_77)) (fun _ h9 => h9) rfl dX12_bars_26 ?_
      refine lv_topi (fun y6 ey6 => ?_)
      have hF := mi_let hF ey6
      have by6 : y6.toInt = (xi1 0 36).toInt := congrArg Int32.toInt ey6
      exact W.iret (v := y6) hx hb hr (fun t ht hW => ⟨⟨y6, xi1, rfl, ⟨hF.trans hfz.symm, ok, trivial, kp2⟩, by first | (subst ht; exact hP) | (rw [ht]; exact hP) | (show va_P (dC, dI) vwCl (wR 21 ad (EM cs ad) xi1) t.heap; rw [ht]; exact hP)⟩, hS.F ht⟩) hS.2.2 dX12_bars_29
    · have hF := (if_pos c_5).symm.trans hF
      have c_5 : y4.toInt = 0 := il_eq c_5
      refine lv_iconst (v := 0) hx hb dX12_bars_21 (by decide) ?_
      refine lv_goto (tgt := 29) hx hb dX12_bars_22 (by decide) ?_
      exact W.iret (v := 0) hx hb hr (fun t ht hW => ⟨⟨0, xi1, rfl, ⟨hF.trans hfz.symm, ok, trivial, kp2⟩, by first | (subst ht; exact hP) | (rw [ht]; exact hP) | (show va_P (dC, dI) vwCl (wR 21 ad (EM cs ad) xi1) t.heap; rw [ht]; exact hP)⟩, hS.F ht⟩) hS.2.2 dX12_bars_29
  · have hF := (if_neg (show ¬ r1 = 0 from fun h => by have h9 := congrArg Int32.toInt h; have h8 : (0 : Int32).toInt = 0 := rfl; omega)).symm.trans hF
    have kp3 : (∀ k f : Nat, Nat.testBit 510 (gpM k f) = true → xi1 k f = mu k f) := kp_t hkp1_0 (by decide) (fun _ _ _ => rfl)
    skip
    refine lv_istore_n (lv' := [(2, .int r1), (0, .ref (ad 0)), (1, .int vk)]) hx hb dX12_bars_5 rfl hl (by decide) rfl (fun ls hl => ?_)
    refine lv_iload_n hx hb dX12_bars_6 rfl (lv_at hl 0 rfl) ?_
    refine lv_if_ge (tgt := 14) hx hb dX12_bars_7 (by decide) (fun c_7 => by have c_7 : 0 ≤ r1.toInt := il_le c_7; exfalso; omega) (fun c_7 => ?_)
    have c_7 : r1.toInt < 0 := il_nle c_7
    refine lv_iload_n hx hb dX12_bars_10 rfl (lv_at hl 0 rfl) ?_
    refine lv_goto (tgt := 29) hx hb dX12_bars_11 (by decide) ?_
    exact W.iret (v := r1) hx hb hr (fun t ht hW => ⟨⟨r1, xi1, rfl, ⟨hF.trans hfz.symm, ok, trivial, kp3⟩, by first | (subst ht; exact hP) | (rw [ht]; exact hP) | (show va_P (dC, dI) vwCl (wR 21 ad (EM cs ad) xi1) t.heap; rw [ht]; exact hP)⟩, hS.F ht⟩) hS.2.2 dX12_bars_29
set_option maxHeartbeats 4000000 in
set_option maxRecDepth 100000 in
/-- qm_why -/
theorem qm_why (l : Launch) (dC : Nat → ClassId) (dI : Nat → Nat → Nat) (cs : Nat → ClassId) (ad : Nat → Nat) (mu : Nat → Nat → Int32) (ok : okR loM hiM mu) (H : Heap) (hP : va_P (dC, dI) vwCl (wR 21 ad (EM cs ad) mu) H) (hD0 : va_D (fun _ => True) (wR 21 ad (EM cs ad) mu)) (vk : Int32) : Met l yX12_why (wU yX12_why cX12_why 3 (some .int)) ({ frames := 12, cells := 0, slots := 0, locals := 302 }) (va_Pc [.ref (ad 0), .int vk] (sz_P (dC, dI) vwCl (tyM cs) H)) (va_Qi (fun (z : Int32) (xi : Nat → Nat → Int32) => (z, xi) = F_qm_why mu vk ∧ okR loM hiM xi ∧ (True) ∧ (∀ k f : Nat, Nat.testBit 510 (gpM k f) = true → xi k f = mu k f)) (fun xi t => va_P (dC, dI) vwCl (wR 21 ad (EM cs ad) xi) t.heap) (va_A (wR 21 ad (EM cs ad) mu) H.size)) 0 0 (va_A (wR 21 ad (EM cs ad) mu) H.size) := by
  refine Met.ofW (cc := cX12_why) (maxL := 3) (ret := (some .int)) (by decide) rfl ?_
  intro p e s m args below meth c s₁ B hml hv
  obtain ⟨rfl, hh, hK, hz⟩ := hv
  have hx := B.exec
  have hb := B.bytes
  have hr := B.returns
  have hts := atoms_spec (ws := (wU yX12_why cX12_why 3 (some .int))) B.pre
  have hown : s.vm.findClass RX12 = some m.cls := findClass_of_methodNamed B.named
  have hlocks := B.notSynchronized
  subst hh
  have hD := hD0.self (sz := s.heap.size)
  have hA : ∀ q : Nat, s.heap.size ≤ q → (va_A (wR 21 ad (EM cs ad) mu) s.heap.size) q := fun q h => Or.inr h
  have hS : va_S (va_A (wR 21 ad (EM cs ad) mu) s.heap.size) s.heap s.heap [] := va_S.rf
  have hl := lv_entry ([.ref (ad 0), .int vk]) (n := 3) (Nat.le_of_ble_eq_true rfl)
  rw [lg_entry_eq]
  generalize (lg_sl ([.ref (ad 0), .int vk]) ++ List.replicate (3 - (lg_sl ([.ref (ad 0), .int vk])).length) Slot.unset).toArray = ls at hl ⊢
  have hl : lv_has ls 3 [(0, .ref (ad 0)), (1, .int vk)] := hl
  obtain ⟨fz, hfz⟩ : ∃ z, F_qm_why mu vk = z := ⟨_, rfl⟩
  have hF := hfz
  unfold F_qm_why at hF
  refine lv_aload_n hx hb dX12_why_0 rfl (lv_at hl 0 rfl) ?_
  refine lv_iload_n hx hb dX12_why_1 rfl (lv_at hl 1 rfl) ?_
  have hFc := fr_all (wR_D mu hD) hS hA
  refine va_calli (va_runV (As := [.int vk]) (rest := []) ⟨hx, hb, hml, hown, hts⟩ (sm_askedRoutes l dC dI cs ad mu ok s.heap hP ((wR_D mu hD).weaken (fun _ _ _ _ => trivial)) vk) (cwV 1 hts (wU_V mw_6_170 mw_6_167 mw_6_169 mw_0_52 mw_1_13) rfl rfl rfl (by decide +kernel) ⟨Nat.le_of_ble_eq_true rfl, Nat.le_of_ble_eq_true rfl⟩) ⟨sz_c, va_recv hK hP (ci := 12) (q0 := 0) rfl (gM_0 cs ad mu), sz_m hK hz⟩ rfl rfl hl.1 rfl (lv_room (Nat.le_of_ble_eq_true rfl)) dX12_why_2 ⟨Nat.zero_le _, Nat.zero_le _⟩) hS (fun q _ h => hFc q h) hFc (fun r1 xi1 t H1 locs ht hvm hw1 hB hz1 hk1 hS => ?_)
  have hP : va_P (dC, dI) vwCl (wR 21 ad (EM cs ad) xi1) H1 := by rw [← ht]; exact hB
  obtain ⟨hfe1, hw1⟩ := hw1
  have hF := mi_letp hF hfe1
  rcases hw1 with ⟨rfl, ok, f1, hkp1_0⟩ | ⟨z1, ok, hkp1_0⟩
  · have hF := (if_pos rfl).symm.trans hF
    have kp2 : (∀ k f : Nat, Nat.testBit 510 (gpM k f) = true → xi1 k f = mu k f) := kp_t hkp1_0 (by decide) (fun _ _ _ => rfl)
    have f1 : 0 ≤ vk.toInt ∧ vk.toInt ≤ 3 ∧ ((xi1 0 33).toInt = 0 ∨ (xi1 0 35).toInt ≤ 7) := f1
    refine lv_istore_n (lv' := [(2, .int 0), (0, .ref (ad 0)), (1, .int vk)]) hx hb dX12_why_5 rfl hl (by decide) rfl (fun ls hl => ?_)
    refine lv_iload_n hx hb dX12_why_6 rfl (lv_at hl 0 rfl) ?_
    refine lv_if_ge (tgt := 12) hx hb dX12_why_7 (by decide) (fun _ => ?_) (fun c => absurd (by decide) c)
    refine lv_aload_n hx hb dX12_why_12 rfl (lv_at hl 1 rfl) ?_
    refine va_get (D := (dC, dI)) (ci := 12) (v := .int (xi1 0 33)) (C := RX12) (T := TX12) (N := 46) hx hb hts inG12 hown hK hP 0 (gM_0 cs ad xi1) rfl 33 (by decide) (hts _ (List.mem_cons_of_mem _ mw_5_74)) (fun _ h9 => h9) rfl dX12_why_13 ?_
    refine lv_topi (fun y4 ey4 => ?_)
    have hF := mi_let hF ey4
    have by4 : y4.toInt = (xi1 0 33).toInt := congrArg Int32.toInt ey4
    refine lv_if_le (tgt := 21) hx hb dX12_why_16 (by decide) (fun c_5 => ?_) (fun c_5 => ?_)
    · have hF := (if_pos c_5).symm.trans hF
      have c_5 : y4.toInt ≤ 0 := il_le c_5
      refine lv_aload_n hx hb dX12_why_21 rfl (lv_at hl 1 rfl) ?_
      refine va_get (D := (dC, dI)) (ci := 12) (v := .int (xi1 0 30)) (C := RX12) (T := TX12) (N := 46) hx hb hts inG12 hown hK hP 0 (gM_0 cs ad xi1) rfl 30 (by decide) (hts _ (List.mem_cons_of_mem _ mw_5_71)) (fun _ h9 => h9) rfl dX12_why_22 ?_
      refine lv_topi (fun y6 ey6 => ?_)
      have hF := mi_let hF ey6
      have by6 : y6.toInt = (xi1 0 30).toInt := congrArg Int32.toInt ey6
      refine lv_if_le (tgt := 30) hx hb dX12_why_25 (by decide) (fun c_7 => ?_) (fun c_7 => ?_)
      · have hF := (if_pos c_7).symm.trans hF
        have c_7 : y6.toInt ≤ 0 := il_le c_7
        refine lv_aload_n hx hb dX12_why_30 rfl (lv_at hl 1 rfl) ?_
        refine lv_iconst (v := 0) hx hb dX12_why_31 (by decide) ?_
        refine va_put (D := (dC, dI)) (ci := 12) (v := .int 0) (ty := .boolean) (C := RX12) (T := TX12) (N := 46) hx hb hts inG12 tyX12 tyX12_ok nmX12 hown hK hP (wR_D xi1 hD) hS 0 (gM_0 cs ad xi1) rfl 38 (by decide) (hts _ (List.mem_cons_of_mem _ mw_5_79)) (fun _ h9 => h9) rfl (by decide +kernel) (by first | rfl | decide) (by first | rfl | decide) (Nat.le_of_ble_eq_true rfl) dX12_why_32 (fun H locs hP _ hS => ?_)
        simp only [List.set_cons_succ, List.set_cons_zero] at hP
        refine wr_gen (upd (xi1 0) 38 0) hP ((hM_0_38 cs ad _ _)) (fun nu8 hn8 hP => ?_)
        have hF := mi_let hF hn8.symm
        have ok := tM_0_38 ok hn8 (by have h9 : (0 : Int32).toInt = 0 := rfl; exact ⟨by omega, by omega⟩)
        have ez9 : y4 = nu8 0 33 := ey4.trans (up_f hn8 (by decide)).symm
        have ez10 : y6 = nu8 0 30 := ey6.trans (up_f hn8 (by decide)).symm
        have kp11 : (∀ k f : Nat, Nat.testBit 510 (gpM k f) = true → nu8 k f = mu k f) := kp_f hn8 (by decide) kp2
        have ez12 : 0 = nu8 0 38 := up_v hn8
        refine lv_aload_n hx hb dX12_why_35 rfl (lv_at hl 1 rfl) ?_
        refine lv_iload_n hx hb dX12_why_36 rfl (lv_at hl 2 rfl) ?_
        have hFc := fr_all (wR_D nu8 hD) hS hA
        refine va_callv (va_runV (As := [.int vk]) (rest := []) ⟨hx, hb, hml, hown, hts⟩ (sm_routesOf l dC dI cs ad nu8 ok H hP ((wR_D nu8 hD).weaken (fun _ _ _ _ => trivial)) vk (by omega)) (cwV 1 hts (wU_V mw_6_174 mw_6_171 mw_6_173 mw_0_53 mw_1_13) rfl rfl rfl (by decide +kernel) ⟨Nat.le_of_ble_eq_true rfl, Nat.le_of_ble_eq_true rfl⟩) ⟨sz_c, va_recv hK hP (ci := 12) (q0 := 0) rfl (gM_0 cs ad nu8), sz_m hK hz⟩ rfl rfl hl.1 rfl (lv_room (Nat.le_of_ble_eq_true rfl)) dX12_why_37 ⟨Nat.zero_le _, Nat.zero_le _⟩) hS (fun q _ h => hFc q h) hFc (fun xi13 t H13 locs ht hvm hw13 hB hz1 hk1 hS => ?_)
        have hP : va_P (dC, dI) vwCl (wR 21 ad (EM cs ad) xi13) H13 := by rw [← ht]; exact hB
        obtain ⟨hfe13, ok, hw13, hkp13_0⟩ := hw13
        have hF := mi_let hF hfe13
        have kp14 : (∀ k f : Nat, Nat.testBit 510 (gpM k f) = true → xi13 k f = mu k f) := kp_t hkp13_0 (by decide) kp11
        have gr13 : ((xi13 0 39).toInt = -9 ∨ (0 ≤ (xi13 0 39).toInt ∧ (xi13 0 39).toInt ≤ 3)) ∧ ((xi13 0 33).toInt = 0 ∨ (xi13 0 35).toInt ≤ 7) := hw13
        refine lv_aload_n hx hb dX12_why_40 rfl (lv_at hl 1 rfl) ?_
        refine va_get (D := (dC, dI)) (ci := 12) (v := .int (xi13 0 30)) (C := RX12) (T := TX12) (N := 46) hx hb hts inG12 hown hK hP 0 (gM_0 cs ad xi13) rfl 30 (by decide) (hts _ (List.mem_cons_of_mem _ mw_5_71)) (fun _ h9 => h9) rfl dX12_why_41 ?_
        refine lv_topi (fun y15 ey15 => ?_)
        have hF := mi_let hF ey15
        have by15 : y15.toInt = (xi13 0 30).toInt := congrArg Int32.toInt ey15
        refine lv_if_le (tgt := 51) hx hb dX12_why_44 (by decide) (fun c_16 => ?_) (fun c_16 => ?_)
        · have hF := (if_pos c_16).symm.trans hF
          have c_16 : y15.toInt ≤ 0 := il_le c_16
          refine lv_iconst (v := 1) hx hb dX12_why_51 (by decide) ?_
          exact W.iret (v := 1) hx hb hr (fun t ht hW => ⟨⟨1, xi13, rfl, ⟨hF.trans hfz.symm, ok, trivial, kp14⟩, by first | (subst ht; exact hP) | (rw [ht]; exact hP) | (show va_P (dC, dI) vwCl (wR 21 ad (EM cs ad) xi13) t.heap; rw [ht]; exact hP)⟩, hS.F ht⟩) hS.2.2 dX12_why_52
        · have hF := (if_neg c_16).symm.trans hF
          have c_16 : 0 < y15.toInt := il_nle c_16
          refine lv_iconst (v := 2) hx hb dX12_why_47 (by decide) ?_
          refine lv_goto (tgt := 52) hx hb dX12_why_48 (by decide) ?_
          exact W.iret (v := 2) hx hb hr (fun t ht hW => ⟨⟨2, xi13, rfl, ⟨hF.trans hfz.symm, ok, trivial, kp14⟩, by first | (subst ht; exact hP) | (rw [ht]; exact hP) | (show va_P (dC, dI) vwCl (wR 21 ad (EM cs ad) xi13) t.heap; rw [ht]; exact hP)⟩, hS.F ht⟩) hS.2.2 dX12_why_52
      · have hF := (if_neg c_7).symm.trans hF
        have c_7 : 0 < y6.toInt := il_nle c_7
        refine lv_iconst (v := 3) hx hb dX12_why_28 (by decide) ?_
        exact W.iret (v := 3) hx hb hr (fun t ht hW => ⟨⟨3, xi1, rfl, ⟨hF.trans hfz.symm, ok, trivial, kp2⟩, by first | (subst ht; exact hP) | (rw [ht]; exact hP) | (show va_P (dC, dI) vwCl (wR 21 ad (EM cs ad) xi1) t.heap; rw [ht]; exact hP)⟩, hS.F ht⟩) hS.2.2 dX12_why_29
    · have hF := (if_neg c_5).symm.trans hF
      have c_5 : 0 < y4.toInt := il_nle c_5
      refine lv_iconst (v := 0) hx hb dX12_why_19 (by decide) ?_
      exact W.iret (v := 0) hx hb hr (fun t ht hW => ⟨⟨0, xi1, rfl, ⟨hF.trans hfz.symm, ok, trivial, kp2⟩, by first | (subst ht; exact hP) | (rw [ht]; exact hP) | (show va_P (dC, dI) vwCl (wR 21 ad (EM cs ad) xi1) t.heap; rw [ht]; exact hP)⟩, hS.F ht⟩) hS.2.2 dX12_why_20
  · have hF := (if_neg (show ¬ r1 = 0 from fun h => by have h9 := congrArg Int32.toInt h; have h8 : (0 : Int32).toInt = 0 := rfl; omega)).symm.trans hF
    have kp3 : (∀ k f : Nat, Nat.testBit 510 (gpM k f) = true → xi1 k f = mu k f) := kp_t hkp1_0 (by decide) (fun _ _ _ => rfl)
    skip
    refine lv_istore_n (lv' := [(2, .int r1), (0, .ref (ad 0)), (1, .int vk)]) hx hb dX12_why_5 rfl hl (by decide) rfl (fun ls hl => ?_)
    refine lv_iload_n hx hb dX12_why_6 rfl (lv_at hl 0 rfl) ?_
    refine lv_if_ge (tgt := 12) hx hb dX12_why_7 (by decide) (fun c_17 => by have c_17 : 0 ≤ r1.toInt := il_le c_17; exfalso; omega) (fun c_17 => ?_)
    have c_17 : r1.toInt < 0 := il_nle c_17
    refine lv_iload_n hx hb dX12_why_10 rfl (lv_at hl 0 rfl) ?_
    exact W.iret (v := r1) hx hb hr (fun t ht hW => ⟨⟨r1, xi1, rfl, ⟨hF.trans hfz.symm, ok, trivial, kp3⟩, by first | (subst ht; exact hP) | (rw [ht]; exact hP) | (show va_P (dC, dI) vwCl (wR 21 ad (EM cs ad) xi1) t.heap; rw [ht]; exact hP)⟩, hS.F ht⟩) hS.2.2 dX12_why_11
set_option maxHeartbeats 4000000 in
set_option maxRecDepth 100000 in
/-- qm_needs -/
theorem qm_needs (l : Launch) (dC : Nat → ClassId) (dI : Nat → Nat → Nat) (cs : Nat → ClassId) (ad : Nat → Nat) (mu : Nat → Nat → Int32) (ok : okR loM hiM mu) (H : Heap) (hP : va_P (dC, dI) vwCl (wR 21 ad (EM cs ad) mu) H) (hD0 : va_D (fun _ => True) (wR 21 ad (EM cs ad) mu)) (vk : Int32) : Met l yX12_needs (wU yX12_needs cX12_needs 3 (some .int)) ({ frames := 12, cells := 0, slots := 0, locals := 302 }) (va_Pc [.ref (ad 0), .int vk] (sz_P (dC, dI) vwCl (tyM cs) H)) (va_Qi (fun (z : Int32) (xi : Nat → Nat → Int32) => (z, xi) = F_qm_needs mu vk ∧ okR loM hiM xi ∧ (True) ∧ (∀ k f : Nat, Nat.testBit 510 (gpM k f) = true → xi k f = mu k f)) (fun xi t => va_P (dC, dI) vwCl (wR 21 ad (EM cs ad) xi) t.heap) (va_A (wR 21 ad (EM cs ad) mu) H.size)) 0 0 (va_A (wR 21 ad (EM cs ad) mu) H.size) := by
  refine Met.ofW (cc := cX12_needs) (maxL := 3) (ret := (some .int)) (by decide) rfl ?_
  intro p e s m args below meth c s₁ B hml hv
  obtain ⟨rfl, hh, hK, hz⟩ := hv
  have hx := B.exec
  have hb := B.bytes
  have hr := B.returns
  have hts := atoms_spec (ws := (wU yX12_needs cX12_needs 3 (some .int))) B.pre
  have hown : s.vm.findClass RX12 = some m.cls := findClass_of_methodNamed B.named
  have hlocks := B.notSynchronized
  subst hh
  have hD := hD0.self (sz := s.heap.size)
  have hA : ∀ q : Nat, s.heap.size ≤ q → (va_A (wR 21 ad (EM cs ad) mu) s.heap.size) q := fun q h => Or.inr h
  have hS : va_S (va_A (wR 21 ad (EM cs ad) mu) s.heap.size) s.heap s.heap [] := va_S.rf
  have hl := lv_entry ([.ref (ad 0), .int vk]) (n := 3) (Nat.le_of_ble_eq_true rfl)
  rw [lg_entry_eq]
  generalize (lg_sl ([.ref (ad 0), .int vk]) ++ List.replicate (3 - (lg_sl ([.ref (ad 0), .int vk])).length) Slot.unset).toArray = ls at hl ⊢
  have hl : lv_has ls 3 [(0, .ref (ad 0)), (1, .int vk)] := hl
  obtain ⟨fz, hfz⟩ : ∃ z, F_qm_needs mu vk = z := ⟨_, rfl⟩
  have hF := hfz
  unfold F_qm_needs at hF
  refine lv_aload_n hx hb dX12_needs_0 rfl (lv_at hl 0 rfl) ?_
  refine lv_iload_n hx hb dX12_needs_1 rfl (lv_at hl 1 rfl) ?_
  have hFc := fr_all (wR_D mu hD) hS hA
  refine va_calli (va_runV (As := [.int vk]) (rest := []) ⟨hx, hb, hml, hown, hts⟩ (sm_askedRoutes l dC dI cs ad mu ok s.heap hP ((wR_D mu hD).weaken (fun _ _ _ _ => trivial)) vk) (cwV 1 hts (wU_V mw_6_170 mw_6_167 mw_6_169 mw_0_52 mw_1_13) rfl rfl rfl (by decide +kernel) ⟨Nat.le_of_ble_eq_true rfl, Nat.le_of_ble_eq_true rfl⟩) ⟨sz_c, va_recv hK hP (ci := 12) (q0 := 0) rfl (gM_0 cs ad mu), sz_m hK hz⟩ rfl rfl hl.1 rfl (lv_room (Nat.le_of_ble_eq_true rfl)) dX12_needs_2 ⟨Nat.zero_le _, Nat.zero_le _⟩) hS (fun q _ h => hFc q h) hFc (fun r1 xi1 t H1 locs ht hvm hw1 hB hz1 hk1 hS => ?_)
  have hP : va_P (dC, dI) vwCl (wR 21 ad (EM cs ad) xi1) H1 := by rw [← ht]; exact hB
  obtain ⟨hfe1, hw1⟩ := hw1
  have hF := mi_letp hF hfe1
  rcases hw1 with ⟨rfl, ok, f1, hkp1_0⟩ | ⟨z1, ok, hkp1_0⟩
  · have hF := (if_pos rfl).symm.trans hF
    have kp2 : (∀ k f : Nat, Nat.testBit 510 (gpM k f) = true → xi1 k f = mu k f) := kp_t hkp1_0 (by decide) (fun _ _ _ => rfl)
    have f1 : 0 ≤ vk.toInt ∧ vk.toInt ≤ 3 ∧ ((xi1 0 33).toInt = 0 ∨ (xi1 0 35).toInt ≤ 7) := f1
    refine lv_istore_n (lv' := [(2, .int 0), (0, .ref (ad 0)), (1, .int vk)]) hx hb dX12_needs_5 rfl hl (by decide) rfl (fun ls hl => ?_)
    refine lv_iload_n hx hb dX12_needs_6 rfl (lv_at hl 0 rfl) ?_
    refine lv_if_ge (tgt := 14) hx hb dX12_needs_7 (by decide) (fun _ => ?_) (fun c => absurd (by decide) c)
    refine lv_aload_n hx hb dX12_needs_14 rfl (lv_at hl 1 rfl) ?_
    refine va_get (D := (dC, dI)) (ci := 12) (v := .int (xi1 0 37)) (C := RX12) (T := TX12) (N := 46) hx hb hts inG12 hown hK hP 0 (gM_0 cs ad xi1) rfl 37 (by decide) (hts _ (List.mem_cons_of_mem _ mw_5_78)) (fun _ h9 => h9) rfl dX12_needs_15 ?_
    refine lv_topi (fun y4 ey4 => ?_)
    have hF := mi_let hF ey4
    have by4 : y4.toInt = (xi1 0 37).toInt := congrArg Int32.toInt ey4
    refine lv_sipush (v := 999) hx hb dX12_needs_18 (by decide) ?_
    refine lv_icmp_le (tgt := 29) hx hb dX12_needs_21 (by decide) (fun c_5 => ?_) (fun c_5 => ?_)
    · have hF := (if_pos c_5).symm.trans hF
      have c_5 : y4.toInt ≤ 999 := il_le c_5
      refine lv_aload_n hx hb dX12_needs_29 rfl (lv_at hl 1 rfl) ?_
      refine va_get (D := (dC, dI)) (ci := 12) (v := .int (xi1 0 37)) (C := RX12) (T := TX12) (N := 46) hx hb hts inG12 hown hK hP 0 (gM_0 cs ad xi1) rfl 37 (by decide) (hts _ (List.mem_cons_of_mem _ mw_5_78)) (fun _ h9 => h9) rfl dX12_needs_30 ?_
      refine lq_i y4 ey4.symm ?_
      exact W.iret (v := y4) hx hb hr (fun t ht hW => ⟨⟨y4, xi1, rfl, ⟨hF.trans hfz.symm, ok, trivial, kp2⟩, by first | (subst ht; exact hP) | (rw [ht]; exact hP) | (show va_P (dC, dI) vwCl (wR 21 ad (EM cs ad) xi1) t.heap; rw [ht]; exact hP)⟩, hS.F ht⟩) hS.2.2 dX12_needs_33
    · have hF := (if_neg c_5).symm.trans hF
      have c_5 : 999 < y4.toInt := il_nle c_5
      refine lv_bipush (v := (-9)) hx hb dX12_needs_24 (by decide) ?_
      refine lv_goto (tgt := 33) hx hb dX12_needs_26 (by decide) ?_
      exact W.iret (v := (-9)) hx hb hr (fun t ht hW => ⟨⟨(-9), xi1, rfl, ⟨hF.trans hfz.symm, ok, trivial, kp2⟩, by first | (subst ht; exact hP) | (rw [ht]; exact hP) | (show va_P (dC, dI) vwCl (wR 21 ad (EM cs ad) xi1) t.heap; rw [ht]; exact hP)⟩, hS.F ht⟩) hS.2.2 dX12_needs_33
  · have hF := (if_neg (show ¬ r1 = 0 from fun h => by have h9 := congrArg Int32.toInt h; have h8 : (0 : Int32).toInt = 0 := rfl; omega)).symm.trans hF
    have kp3 : (∀ k f : Nat, Nat.testBit 510 (gpM k f) = true → xi1 k f = mu k f) := kp_t hkp1_0 (by decide) (fun _ _ _ => rfl)
    skip
    refine lv_istore_n (lv' := [(2, .int r1), (0, .ref (ad 0)), (1, .int vk)]) hx hb dX12_needs_5 rfl hl (by decide) rfl (fun ls hl => ?_)
    refine lv_iload_n hx hb dX12_needs_6 rfl (lv_at hl 0 rfl) ?_
    refine lv_if_ge (tgt := 14) hx hb dX12_needs_7 (by decide) (fun c_6 => by have c_6 : 0 ≤ r1.toInt := il_le c_6; exfalso; omega) (fun c_6 => ?_)
    have c_6 : r1.toInt < 0 := il_nle c_6
    refine lv_iload_n hx hb dX12_needs_10 rfl (lv_at hl 0 rfl) ?_
    refine lv_goto (tgt := 33) hx hb dX12_needs_11 (by decide) ?_
    exact W.iret (v := r1) hx hb hr (fun t ht hW => ⟨⟨r1, xi1, rfl, ⟨hF.trans hfz.symm, ok, trivial, kp3⟩, by first | (subst ht; exact hP) | (rw [ht]; exact hP) | (show va_P (dC, dI) vwCl (wR 21 ad (EM cs ad) xi1) t.heap; rw [ht]; exact hP)⟩, hS.F ht⟩) hS.2.2 dX12_needs_33
set_option maxHeartbeats 4000000 in
set_option maxRecDepth 100000 in
/-- qm_lend -/
theorem qm_lend (l : Launch) (dC : Nat → ClassId) (dI : Nat → Nat → Nat) (cs : Nat → ClassId) (ad : Nat → Nat) (mu : Nat → Nat → Int32) (ok : okR loM hiM mu) (H : Heap) (hP : va_P (dC, dI) vwCl (wR 21 ad (EM cs ad) mu) H) (hD0 : va_D (fun _ => True) (wR 21 ad (EM cs ad) mu)) (vk : Int32) : Met l yX12_lend (wU yX12_lend cX12_lend 9 (some .int)) ({ frames := 12, cells := 0, slots := 0, locals := 302 }) (va_Pc [.ref (ad 0), .int vk] (sz_P (dC, dI) vwCl (tyM cs) H)) (va_Qi (fun (z : Int32) (xi : Nat → Nat → Int32) => (z, xi) = F_qm_lend mu vk ∧ okR loM hiM xi ∧ (True) ∧ (∀ k f : Nat, Nat.testBit 510 (gpM k f) = true → xi k f = mu k f)) (fun xi t => va_P (dC, dI) vwCl (wR 21 ad (EM cs ad) xi) t.heap) (va_A (wR 21 ad (EM cs ad) mu) H.size)) 0 0 (va_A (wR 21 ad (EM cs ad) mu) H.size) := by
  refine Met.ofW (cc := cX12_lend) (maxL := 9) (ret := (some .int)) (by decide) rfl ?_
  intro p e s m args below meth c s₁ B hml hv
  obtain ⟨rfl, hh, hK, hz⟩ := hv
  have hx := B.exec
  have hb := B.bytes
  have hr := B.returns
  have hts := atoms_spec (ws := (wU yX12_lend cX12_lend 9 (some .int))) B.pre
  have hown : s.vm.findClass RX12 = some m.cls := findClass_of_methodNamed B.named
  have hlocks := B.notSynchronized
  subst hh
  have hD := hD0.self (sz := s.heap.size)
  have hA : ∀ q : Nat, s.heap.size ≤ q → (va_A (wR 21 ad (EM cs ad) mu) s.heap.size) q := fun q h => Or.inr h
  have hS : va_S (va_A (wR 21 ad (EM cs ad) mu) s.heap.size) s.heap s.heap [] := va_S.rf
  have hl := lv_entry ([.ref (ad 0), .int vk]) (n := 9) (Nat.le_of_ble_eq_true rfl)
  rw [lg_entry_eq]
  generalize (lg_sl ([.ref (ad 0), .int vk]) ++ List.replicate (9 - (lg_sl ([.ref (ad 0), .int vk])).length) Slot.unset).toArray = ls at hl ⊢
  have hl : lv_has ls 9 [(0, .ref (ad 0)), (1, .int vk)] := hl
  obtain ⟨fz, hfz⟩ : ∃ z, F_qm_lend mu vk = z := ⟨_, rfl⟩
  have hF := hfz
  unfold F_qm_lend at hF
  refine lv_aload_n hx hb dX12_lend_0 rfl (lv_at hl 0 rfl) ?_
  refine lv_iload_n hx hb dX12_lend_1 rfl (lv_at hl 1 rfl) ?_
  have hFc := fr_all (wR_D mu hD) hS hA
  refine va_calli (va_runV (As := [.int vk]) (rest := []) ⟨hx, hb, hml, hown, hts⟩ (sm_askedRoutes l dC dI cs ad mu ok s.heap hP ((wR_D mu hD).weaken (fun _ _ _ _ => trivial)) vk) (cwV 1 hts (wU_V mw_6_170 mw_6_167 mw_6_169 mw_0_52 mw_1_13) rfl rfl rfl (by decide +kernel) ⟨Nat.le_of_ble_eq_true rfl, Nat.le_of_ble_eq_true rfl⟩) ⟨sz_c, va_recv hK hP (ci := 12) (q0 := 0) rfl (gM_0 cs ad mu), sz_m hK hz⟩ rfl rfl hl.1 rfl (lv_room (Nat.le_of_ble_eq_true rfl)) dX12_lend_2 ⟨Nat.zero_le _, Nat.zero_le _⟩) hS (fun q _ h => hFc q h) hFc (fun r1 xi1 t H1 locs ht hvm hw1 hB hz1 hk1 hS => ?_)
  have hP : va_P (dC, dI) vwCl (wR 21 ad (EM cs ad) xi1) H1 := by rw [← ht]; exact hB
  obtain ⟨hfe1, hw1⟩ := hw1
  have hF := mi_letp hF hfe1
  rcases hw1 with ⟨rfl, ok, f1, hkp1_0⟩ | ⟨z1, ok, hkp1_0⟩
  · have hF := (if_pos rfl).symm.trans hF
    have kp2 : (∀ k f : Nat, Nat.testBit 510 (gpM k f) = true → xi1 k f = mu k f) := kp_t hkp1_0 (by decide) (fun _ _ _ => rfl)
    have f1 : 0 ≤ vk.toInt ∧ vk.toInt ≤ 3 ∧ ((xi1 0 33).toInt = 0 ∨ (xi1 0 35).toInt ≤ 7) := f1
    refine lv_istore_n (lv' := [(2, .int 0), (0, .ref (ad 0)), (1, .int vk)]) hx hb dX12_lend_5 rfl hl (by decide) rfl (fun ls hl => ?_)
    refine lv_iload_n hx hb dX12_lend_6 rfl (lv_at hl 0 rfl) ?_
    refine lv_if_ge (tgt := 12) hx hb dX12_lend_7 (by decide) (fun _ => ?_) (fun c => absurd (by decide) c)
    refine lv_bipush (v := (-9)) hx hb dX12_lend_12 (by decide) ?_
    refine lv_istore_n (lv' := [(3, .int (-9)), (2, .int 0), (0, .ref (ad 0)), (1, .int vk)]) hx hb dX12_lend_14 rfl hl (by decide) rfl (fun ls hl => ?_)
    refine lv_ldc (v := 1048576) hx hb hown (hts _ (List.mem_cons_of_mem _ mw_6_179)) dX12_lend_15 ?_
    refine lv_istore (lv' := [(4, .int 1048576), (3, .int (-9)), (2, .int 0), (0, .ref (ad 0)), (1, .int vk)]) hx hb dX12_lend_17 hl (by decide) rfl (fun ls hl => ?_)
    refine lv_iconst (v := 0) hx hb dX12_lend_19 (by decide) ?_
    refine lv_istore (lv' := [(5, .int 0), (4, .int 1048576), (3, .int (-9)), (2, .int 0), (0, .ref (ad 0)), (1, .int vk)]) hx hb dX12_lend_20 hl (by decide) rfl (fun ls hl => ?_)
    have loop22 : ∀ (n22 : Nat) (v3_22 : Int32) (v4_22 : Int32) (v5_22 : Int32) (nu22_ : Nat → Nat → Int32) (H : Heap) (locs : List Loc) (ls : Array Slot), (7 + 1 - v5_22.toInt).toNat < n22 → (0 ≤ v5_22.toInt ∧ v5_22.toInt ≤ 7) → okR loM hiM nu22_ → va_P (dC, dI) vwCl (wR 21 ad (EM cs ad) nu22_) H → (∀ k f : Nat, Nat.testBit 510 (gpM k f) = true → nu22_ k f = mu k f) → L_qm_lend_22_0 vk n22 v3_22 v4_22 v5_22 nu22_ = fz → va_S (va_A (wR 21 ad (EM cs ad) mu) s.heap.size) s.heap H locs → lv_has ls 9 [(5, .int v5_22), (4, .int v4_22), (3, .int v3_22), (2, .int 0), (0, .ref (ad 0)), (1, .int vk)] → W p l e (headSpec (wU yX12_lend cX12_lend 9 (some .int)) ({ frames := 12, cells := 0, slots := 0, locals := 302 })).room s m ([.ref (ad 0), .int vk] : List Value).toArray below meth c H locs 0 0 (MQ below (va_Qi (fun (z : Int32) (xi : Nat → Nat → Int32) => (z, xi) = F_qm_lend mu vk ∧ okR loM hiM xi ∧ (True) ∧ (∀ k f : Nat, Nat.testBit 510 (gpM k f) = true → xi k f = mu k f)) (fun xi t => va_P (dC, dI) vwCl (wR 21 ad (EM cs ad) xi) t.heap) (va_A (wR 21 ad (EM cs ad) mu) s.heap.size)) ([.ref (ad 0), .int vk] : List Value).toArray s 0 0 (va_A (wR 21 ad (EM cs ad) mu) s.heap.size)) (F0 m 22 ls []) := by
      intro n22
      induction n22 with
      | zero => intro v3_22 v4_22 v5_22 nu22_ H locs ls hm; exact absurd hm (Nat.not_lt_zero _)
      | succ n22 ih22 =>
        intro v3_22 v4_22 v5_22 nu22_ H locs ls hm_22 h_v5_22 ok hP kq22_0 hF hS hl
        rw [L_qm_lend_22_0] at hF
        refine lv_iload hx hb dX12_lend_22 (lv_at hl 0 rfl) ?_
        refine lv_aload_n hx hb dX12_lend_24 rfl (lv_at hl 4 rfl) ?_
        refine va_get (D := (dC, dI)) (ci := 12) (v := .int (nu22_ 0 8)) (C := RX12) (T := TX12) (N := 46) hx hb hts inG12 hown hK hP 0 (gM_0 cs ad nu22_) rfl 8 (by decide) (hts _ (List.mem_cons_of_mem _ mw_5_49)) (fun _ h9 => h9) rfl dX12_lend_25 ?_
        refine lv_topi (fun y4 ey4 => ?_)
        have hF := mi_let hF ey4
        have by4 : y4.toInt = (nu22_ 0 8).toInt := congrArg Int32.toInt ey4
        have gy4 : 0 ≤ y4.toInt ∧ y4.toInt ≤ 7 := by rw [ey4]; exact rM_0_8 ok
        refine lv_icmp_ge (tgt := 158) hx hb dX12_lend_28 (by decide) (fun c_5 => ?_) (fun c_5 => ?_)
        · have hF := (if_pos c_5).symm.trans hF
          have c_5 : y4.toInt ≤ v5_22.toInt := il_le c_5
          refine lv_iload_n hx hb dX12_lend_158 rfl (lv_at hl 2 rfl) ?_
          refine lv_bipush (v := (-9)) hx hb dX12_lend_159 (by decide) ?_
          refine lv_icmp_ne (tgt := 169) hx hb dX12_lend_161 (by decide) (fun c_6 => ?_) (fun c_6 => ?_)
          · have hF := (if_neg c_6).symm.trans hF
            have c_6 : ¬ v3_22.toInt = -9 := il_ne c_6
            refine lv_aload_n hx hb dX12_lend_169 rfl (lv_at hl 4 rfl) ?_
            refine lv_iload hx hb dX12_lend_170 (lv_at hl 1 rfl) ?_
            refine lv_iload_n hx hb dX12_lend_172 rfl (lv_at hl 2 rfl) ?_
            have hFc := fr_all (wR_D nu22_ hD) hS hA
            refine va_calli (va_runV (As := [.int v4_22, .int v3_22]) (rest := []) ⟨hx, hb, hml, hown, hts⟩ (sm_ask l dC dI cs ad nu22_ ok H hP ((wR_D nu22_ hD).weaken (fun _ _ _ _ => trivial)) v4_22 v3_22) (cwV 2 hts (wU_V mw_5_213 mw_5_210 mw_5_212 mw_0_30 mw_1_13) rfl rfl rfl (by decide +kernel) ⟨Nat.le_of_ble_eq_true rfl, Nat.le_of_ble_eq_true rfl⟩) ⟨sz_c, va_recv hK hP (ci := 12) (q0 := 0) rfl (gM_0 cs ad nu22_), sz_m hK hz⟩ rfl rfl hl.1 rfl (lv_room (Nat.le_of_ble_eq_true rfl)) dX12_lend_173 ⟨Nat.zero_le _, Nat.zero_le _⟩) hS (fun q _ h => hFc q h) hFc (fun r7 xi7 t H7 locs ht hvm hw7 hB hz1 hk1 hS => ?_)
            have hP : va_P (dC, dI) vwCl (wR 21 ad (EM cs ad) xi7) H7 := by rw [← ht]; exact hB
            obtain ⟨hfe7, ok, hw7, hkp7_0⟩ := hw7
            have hF := mi_letp hF hfe7
            have kp8 : (∀ k f : Nat, Nat.testBit 510 (gpM k f) = true → xi7 k f = mu k f) := kp_t hkp7_0 (by decide) kq22_0
            have gr7 : r7.toInt = v3_22.toInt := hw7
            exact W.iret (v := r7) hx hb hr (fun t ht hW => ⟨⟨r7, xi7, rfl, ⟨hF.trans hfz.symm, ok, trivial, kp8⟩, by first | (subst ht; exact hP) | (rw [ht]; exact hP) | (show va_P (dC, dI) vwCl (wR 21 ad (EM cs ad) xi7) t.heap; rw [ht]; exact hP)⟩, hS.F ht⟩) hS.2.2 dX12_lend_176
          · have hF := (if_pos c_6).symm.trans hF
            have c_6 : v3_22.toInt = -9 := il_eq c_6
            refine lv_bipush (v := (-9)) hx hb dX12_lend_164 (by decide) ?_
            refine lv_goto (tgt := 176) hx hb dX12_lend_166 (by decide) ?_
            exact W.iret (v := (-9)) hx hb hr (fun t ht hW => ⟨⟨(-9), nu22_, rfl, ⟨hF.trans hfz.symm, ok, trivial, kq22_0⟩, by first | (subst ht; exact hP) | (rw [ht]; exact hP) | (show va_P (dC, dI) vwCl (wR 21 ad (EM cs ad) nu22_) t.heap; rw [ht]; exact hP)⟩, hS.F ht⟩) hS.2.2 dX12_lend_176
        · have hF := (if_neg c_5).symm.trans hF
          have c_5 : v5_22.toInt < y4.toInt := il_nle c_5
          refine lv_iload hx hb dX12_lend_31 (lv_at hl 0 rfl) ?_
          refine lv_aload_n hx hb dX12_lend_33 rfl (lv_at hl 4 rfl) ?_
          refine lv_iload_n hx hb dX12_lend_34 rfl (lv_at hl 5 rfl) ?_
          refine lv_iconst (v := 5) hx hb dX12_lend_35 (by decide) ?_
          refine cr_i (va_runV (As := [.int vk, .int 5]) (rest := [.int v5_22]) ⟨hx, hb, hml, hown, hts⟩ (sm_letterOf5 l dC dI cs ad nu22_ ok H hP vk (by have h51 : (5 : Int32).toInt = 5 := rfl; omega)) (cwV 2 hts (wU_V mw_6_48 mw_6_45 mw_6_47 mw_0_38 mw_1_13) rfl rfl rfl (by decide +kernel) ⟨Nat.le_of_ble_eq_true rfl, Nat.le_of_ble_eq_true rfl⟩) ⟨sz_c, va_recv hK hP (ci := 12) (q0 := 0) rfl (gM_0 cs ad nu22_), sz_m hK hz⟩ rfl rfl hl.1 rfl (lv_room (Nat.le_of_ble_eq_true rfl)) dX12_lend_36 ⟨Nat.zero_le _, Nat.zero_le _⟩) hS (fun r9 hw9 locs hS => ?_)
          obtain ⟨hfe9, hw9⟩ := hw9
          have hF := mi_let hF hfe9
          have gr9 : 0 ≤ r9.toInt ∧ r9.toInt ≤ 6 := hw9
          refine lv_icmp_eq (tgt := 68) hx hb dX12_lend_39 (by decide) (fun c_10 => ?_) (fun c_10 => ?_)
          · have hF := (if_pos c_10).symm.trans hF
            have c_10 : v5_22.toInt = r9.toInt := il_eq c_10
            refine lv_iconst (v := 0) hx hb dX12_lend_68 (by decide) ?_
            refine lv_istore (lv' := [(6, .int 0), (5, .int v5_22), (4, .int v4_22), (3, .int v3_22), (2, .int 0), (0, .ref (ad 0)), (1, .int vk)]) hx hb dX12_lend_69 hl (by decide) rfl (fun ls hl => ?_)
            refine lv_aload_n hx hb dX12_lend_71 rfl (lv_at hl 5 rfl) ?_
            refine va_get (D := (dC, dI)) (ci := 12) (v := .ref (ad 8)) (C := RX12) (T := TX12) (N := 46) hx hb hts inG12 hown hK hP 0 (gM_0 cs ad nu22_) rfl 10 (by decide) (hts _ (List.mem_cons_of_mem _ mw_5_51)) (fun _ h9 => h9) rfl dX12_lend_72 ?_
            refine lv_iload hx hb dX12_lend_75 (lv_at hl 1 rfl) ?_
            refine va_iald hx hb hK hP 8 0 (gM_8 cs ad nu22_) rfl (show vp_in v5_22 7 from vi_of (by omega) (by omega)) dX12_lend_77 ?_
            refine lv_topi (fun y11 ey11 => ?_)
            have hF := mi_let hF ey11
            have by11 : y11.toInt = (nu22_ 8 v5_22.toNatClampNeg).toInt := congrArg Int32.toInt ey11
            refine lv_istore (lv' := [(7, .int y11), (6, .int 0), (5, .int v5_22), (4, .int v4_22), (3, .int v3_22), (2, .int 0), (0, .ref (ad 0)), (1, .int vk)]) hx hb dX12_lend_78 hl (by decide) rfl (fun ls hl => ?_)
            refine lv_aload_n hx hb dX12_lend_80 rfl (lv_at hl 6 rfl) ?_
            refine va_get (D := (dC, dI)) (ci := 12) (v := .ref (ad 8)) (C := RX12) (T := TX12) (N := 46) hx hb hts inG12 hown hK hP 0 (gM_0 cs ad nu22_) rfl 10 (by decide) (hts _ (List.mem_cons_of_mem _ mw_5_51)) (fun _ h9 => h9) rfl dX12_lend_81 ?_
            refine lv_iload hx hb dX12_lend_84 (lv_at hl 2 rfl) ?_
            refine lv_bipush (v := 99) hx hb dX12_lend_86 (by decide) ?_
            refine va_iast hx hb hK hP (wR_D nu22_ hD) hS 8 0 (gM_8 cs ad nu22_) rfl (show vp_in v5_22 7 from vi_of (by omega) (by omega)) dX12_lend_88 (fun H locs hP _ hS => ?_)
            refine wr_gen (upd (nu22_ 8) v5_22.toNatClampNeg 99) hP (rfl) (fun nu12 hn12 hP => ?_)
            have hF := mi_let hF hn12.symm
            have ok := tM_8_s ok v5_22.toNatClampNeg hn12
            have ez13 : y4 = nu12 0 8 := ey4.trans (congrFun (up_k hn12 (by decide)) 8).symm
            refine lv_aload_n hx hb dX12_lend_89 rfl (lv_at hl 6 rfl) ?_
            refine lv_iload_n hx hb dX12_lend_90 rfl (lv_at hl 7 rfl) ?_
            have hFc := fr_all (wR_D nu12 hD) hS hA
            refine va_callv (va_runV (As := [.int vk]) (rest := []) ⟨hx, hb, hml, hown, hts⟩ (sm_routesOf l dC dI cs ad nu12 ok H hP ((wR_D nu12 hD).weaken (fun _ _ _ _ => trivial)) vk (by omega)) (cwV 1 hts (wU_V mw_6_174 mw_6_171 mw_6_173 mw_0_53 mw_1_13) rfl rfl rfl (by decide +kernel) ⟨Nat.le_of_ble_eq_true rfl, Nat.le_of_ble_eq_true rfl⟩) ⟨sz_c, va_recv hK hP (ci := 12) (q0 := 0) rfl (gM_0 cs ad nu12), sz_m hK hz⟩ rfl rfl hl.1 rfl (lv_room (Nat.le_of_ble_eq_true rfl)) dX12_lend_91 ⟨Nat.zero_le _, Nat.zero_le _⟩) hS (fun q _ h => hFc q h) hFc (fun xi15 t H15 locs ht hvm hw15 hB hz1 hk1 hS => ?_)
            have hP : va_P (dC, dI) vwCl (wR 21 ad (EM cs ad) xi15) H15 := by rw [← ht]; exact hB
            obtain ⟨hfe15, ok, hw15, hkp15_0⟩ := hw15
            have hF := mi_let hF hfe15
            have gr15 : ((xi15 0 39).toInt = -9 ∨ (0 ≤ (xi15 0 39).toInt ∧ (xi15 0 39).toInt ≤ 3)) ∧ ((xi15 0 33).toInt = 0 ∨ (xi15 0 35).toInt ≤ 7) := hw15
            refine lv_aload_n hx hb dX12_lend_94 rfl (lv_at hl 6 rfl) ?_
            refine va_get (D := (dC, dI)) (ci := 12) (v := .ref (ad 8)) (C := RX12) (T := TX12) (N := 46) hx hb hts inG12 hown hK hP 0 (gM_0 cs ad xi15) rfl 10 (by decide) (hts _ (List.mem_cons_of_mem _ mw_5_51)) (fun _ h9 => h9) rfl dX12_lend_95 ?_
            refine lv_iload hx hb dX12_lend_98 (lv_at hl 2 rfl) ?_
            refine lv_iload hx hb dX12_lend_100 (lv_at hl 0 rfl) ?_
            refine va_iast hx hb hK hP (wR_D xi15 hD) hS 8 0 (gM_8 cs ad xi15) rfl (show vp_in v5_22 7 from vi_of (by omega) (by omega)) dX12_lend_102 (fun H locs hP _ hS => ?_)
            refine wr_gen (upd (xi15 8) v5_22.toNatClampNeg y11) hP (rfl) (fun nu16 hn16 hP => ?_)
            have hF := mi_let hF hn16.symm
            have ok := tM_8_s ok v5_22.toNatClampNeg hn16
            have kp17 : (∀ k f : Nat, Nat.testBit 510 (gpM k f) = true → nu16 k f = mu k f) := kp_back ey11 hn12 hkp15_0 (by decide) hn16 kq22_0
            refine lv_iload hx hb dX12_lend_103 (lv_at hl 1 rfl) ?_
            refine lv_if_eq (tgt := 121) hx hb dX12_lend_105 (by decide) (fun _ => ?_) (fun c => absurd (by decide) c)
            refine lv_iconst (v := 0) hx hb dX12_lend_121 (by decide) ?_
            refine lv_istore (lv' := [(8, .int 0), (7, .int y11), (6, .int 0), (5, .int v5_22), (4, .int v4_22), (3, .int v3_22), (2, .int 0), (0, .ref (ad 0)), (1, .int vk)]) hx hb dX12_lend_122 hl (by decide) rfl (fun ls hl => ?_)
            refine lv_iload hx hb dX12_lend_124 (lv_at hl 0 rfl) ?_
            refine lv_if_eq (tgt := 134) hx hb dX12_lend_126 (by decide) (fun _ => ?_) (fun c => absurd (by decide) c)
            refine lv_iload_n hx hb dX12_lend_134 rfl (lv_at hl 5 rfl) ?_
            refine lv_istore_n (lv' := [(3, .int v3_22), (8, .int 0), (7, .int y11), (6, .int 0), (5, .int v5_22), (4, .int v4_22), (2, .int 0), (0, .ref (ad 0)), (1, .int vk)]) hx hb dX12_lend_135 rfl hl (by decide) rfl (fun ls hl => ?_)
            refine lv_iload hx hb dX12_lend_136 (lv_at hl 1 rfl) ?_
            refine lv_if_eq (tgt := 148) hx hb dX12_lend_138 (by decide) (fun _ => ?_) (fun c => absurd (by decide) c)
            refine lv_iload hx hb dX12_lend_148 (lv_at hl 5 rfl) ?_
            refine lv_istore (lv' := [(4, .int v4_22), (3, .int v3_22), (8, .int 0), (7, .int y11), (6, .int 0), (5, .int v5_22), (2, .int 0), (0, .ref (ad 0)), (1, .int vk)]) hx hb dX12_lend_150 hl (by decide) rfl (fun ls hl => ?_)
            refine lv_iinc (v := (v5_22 + 1)) (lv' := [(5, .int (v5_22 + 1)), (4, .int v4_22), (3, .int v3_22), (8, .int 0), (7, .int y11), (6, .int 0), (2, .int 0), (0, .ref (ad 0)), (1, .int vk)]) hx hb dX12_lend_152 hl (k := 5) rfl rfl (by decide) rfl (fun ls hl => ?_)
            refine loc_gen (P := fun w9 => lv_has ls 9 [(5, .int w9), (4, .int v4_22), (3, .int v3_22), (8, .int 0), (7, .int y11), (6, .int 0), (2, .int 0), (0, .ref (ad 0)), (1, .int vk)]) (v5_22 + 1) hl (fun w18 hw18 hl => ?_)
            have hl : lv_has ls 9 [(5, .int w18), (4, .int v4_22), (3, .int v3_22), (8, .int 0), (7, .int y11), (6, .int 0), (2, .int 0), (0, .ref (ad 0)), (1, .int vk)] := hl
            have hF := mi_let hF hw18.symm
            have aw18 : w18.toInt = v5_22.toInt + 1 := by rw [← hw18]; first | exact va1 (Int.lt_of_le_of_lt h_v5_22.2 (by decide)) | exact va1 (by omega)
            refine lv_goto (tgt := 22) hx hb dX12_lend_155 (by decide) ?_
            exact ih22 (v3_22) (v4_22) (w18) nu16 _ _ _ (by first | exact ms_up hm_22 aw18 h_v5_22.2 | exact ms_lt hm_22 (by omega) (by omega) | omega) (by first | exact rg_up aw18 h_v5_22 (by omega) | omega)  ok hP  kp17 hF hS (lv_sub hl [0, 1, 2, 6, 7, 8] rfl)
          · have hF := (if_neg c_10).symm.trans hF
            have c_10 : ¬ v5_22.toInt = r9.toInt := il_ne c_10
            refine lv_aload_n hx hb dX12_lend_42 rfl (lv_at hl 4 rfl) ?_
            refine va_get (D := (dC, dI)) (ci := 12) (v := .ref (ad 7)) (C := RX12) (T := TX12) (N := 46) hx hb hts inG12 hown hK hP 0 (gM_0 cs ad nu22_) rfl 9 (by decide) (hts _ (List.mem_cons_of_mem _ mw_5_50)) (fun _ h9 => h9) rfl dX12_lend_43 ?_
            refine lv_iload hx hb dX12_lend_46 (lv_at hl 0 rfl) ?_
            refine va_iald hx hb hK hP 7 0 (gM_7 cs ad nu22_) rfl (show vp_in v5_22 7 from vi_of (by omega) (by omega)) dX12_lend_48 ?_
            refine lv_topi (fun y19 ey19 => ?_)
            have hF := mi_let hF ey19
            have by19 : y19.toInt = (nu22_ 7 v5_22.toNatClampNeg).toInt := congrArg Int32.toInt ey19
            refine lv_iconst (v := 3) hx hb dX12_lend_49 (by decide) ?_
            refine lv_icmp_ne (tgt := 64) hx hb dX12_lend_50 (by decide) (fun c_20 => ?_) (fun c_20 => ?_)
            · have hF := (if_neg c_20).symm.trans hF
              have c_20 : ¬ y19.toInt = 3 := il_ne c_20
              refine lv_iconst (v := 1) hx hb dX12_lend_64 (by decide) ?_
              refine lv_goto (tgt := 69) hx hb dX12_lend_65 (by decide) ?_
              refine lv_istore (lv' := [(6, .int 1), (5, .int v5_22), (4, .int v4_22), (3, .int v3_22), (2, .int 0), (0, .ref (ad 0)), (1, .int vk)]) hx hb dX12_lend_69 hl (by decide) rfl (fun ls hl => ?_)
              refine lv_aload_n hx hb dX12_lend_71 rfl (lv_at hl 5 rfl) ?_
              refine va_get (D := (dC, dI)) (ci := 12) (v := .ref (ad 8)) (C := RX12) (T := TX12) (N := 46) hx hb hts inG12 hown hK hP 0 (gM_0 cs ad nu22_) rfl 10 (by decide) (hts _ (List.mem_cons_of_mem _ mw_5_51)) (fun _ h9 => h9) rfl dX12_lend_72 ?_
              refine lv_iload hx hb dX12_lend_75 (lv_at hl 1 rfl) ?_
              refine va_iald hx hb hK hP 8 0 (gM_8 cs ad nu22_) rfl (show vp_in v5_22 7 from vi_of (by omega) (by omega)) dX12_lend_77 ?_
              refine lv_topi (fun y21 ey21 => ?_)
              have hF := mi_let hF ey21
              have by21 : y21.toInt = (nu22_ 8 v5_22.toNatClampNeg).toInt := congrArg Int32.toInt ey21
              refine lv_istore (lv' := [(7, .int y21), (6, .int 1), (5, .int v5_22), (4, .int v4_22), (3, .int v3_22), (2, .int 0), (0, .ref (ad 0)), (1, .int vk)]) hx hb dX12_lend_78 hl (by decide) rfl (fun ls hl => ?_)
              refine lv_aload_n hx hb dX12_lend_80 rfl (lv_at hl 6 rfl) ?_
              refine va_get (D := (dC, dI)) (ci := 12) (v := .ref (ad 8)) (C := RX12) (T := TX12) (N := 46) hx hb hts inG12 hown hK hP 0 (gM_0 cs ad nu22_) rfl 10 (by decide) (hts _ (List.mem_cons_of_mem _ mw_5_51)) (fun _ h9 => h9) rfl dX12_lend_81 ?_
              refine lv_iload hx hb dX12_lend_84 (lv_at hl 2 rfl) ?_
              refine lv_bipush (v := 99) hx hb dX12_lend_86 (by decide) ?_
              refine va_iast hx hb hK hP (wR_D nu22_ hD) hS 8 0 (gM_8 cs ad nu22_) rfl (show vp_in v5_22 7 from vi_of (by omega) (by omega)) dX12_lend_88 (fun H locs hP _ hS => ?_)
              refine wr_gen (upd (nu22_ 8) v5_22.toNatClampNeg 99) hP (rfl) (fun nu22 hn22 hP => ?_)
              have hF := mi_let hF hn22.symm
              have ok := tM_8_s ok v5_22.toNatClampNeg hn22
              have ez23 : y4 = nu22 0 8 := ey4.trans (congrFun (up_k hn22 (by decide)) 8).symm
              have ez24 : y19 = nu22 7 v5_22.toNatClampNeg := ey19.trans (congrFun (up_k hn22 (by decide)) v5_22.toNatClampNeg).symm
              refine lv_aload_n hx hb dX12_lend_89 rfl (lv_at hl 6 rfl) ?_
              refine lv_iload_n hx hb dX12_lend_90 rfl (lv_at hl 7 rfl) ?_
              have hFc := fr_all (wR_D nu22 hD) hS hA
              refine va_callv (va_runV (As := [.int vk]) (rest := []) ⟨hx, hb, hml, hown, hts⟩ (sm_routesOf l dC dI cs ad nu22 ok H hP ((wR_D nu22 hD).weaken (fun _ _ _ _ => trivial)) vk (by omega)) (cwV 1 hts (wU_V mw_6_174 mw_6_171 mw_6_173 mw_0_53 mw_1_13) rfl rfl rfl (by decide +kernel) ⟨Nat.le_of_ble_eq_true rfl, Nat.le_of_ble_eq_true rfl⟩) ⟨sz_c, va_recv hK hP (ci := 12) (q0 := 0) rfl (gM_0 cs ad nu22), sz_m hK hz⟩ rfl rfl hl.1 rfl (lv_room (Nat.le_of_ble_eq_true rfl)) dX12_lend_91 ⟨Nat.zero_le _, Nat.zero_le _⟩) hS (fun q _ h => hFc q h) hFc (fun xi26 t H26 locs ht hvm hw26 hB hz1 hk1 hS => ?_)
              have hP : va_P (dC, dI) vwCl (wR 21 ad (EM cs ad) xi26) H26 := by rw [← ht]; exact hB
              obtain ⟨hfe26, ok, hw26, hkp26_0⟩ := hw26
              have hF := mi_let hF hfe26
              have gr26 : ((xi26 0 39).toInt = -9 ∨ (0 ≤ (xi26 0 39).toInt ∧ (xi26 0 39).toInt ≤ 3)) ∧ ((xi26 0 33).toInt = 0 ∨ (xi26 0 35).toInt ≤ 7) := hw26
              refine lv_aload_n hx hb dX12_lend_94 rfl (lv_at hl 6 rfl) ?_
              refine va_get (D := (dC, dI)) (ci := 12) (v := .ref (ad 8)) (C := RX12) (T := TX12) (N := 46) hx hb hts inG12 hown hK hP 0 (gM_0 cs ad xi26) rfl 10 (by decide) (hts _ (List.mem_cons_of_mem _ mw_5_51)) (fun _ h9 => h9) rfl dX12_lend_95 ?_
              refine lv_iload hx hb dX12_lend_98 (lv_at hl 2 rfl) ?_
              refine lv_iload hx hb dX12_lend_100 (lv_at hl 0 rfl) ?_
              refine va_iast hx hb hK hP (wR_D xi26 hD) hS 8 0 (gM_8 cs ad xi26) rfl (show vp_in v5_22 7 from vi_of (by omega) (by omega)) dX12_lend_102 (fun H locs hP _ hS => ?_)
              refine wr_gen (upd (xi26 8) v5_22.toNatClampNeg y21) hP (rfl) (fun nu27 hn27 hP => ?_)
              have hF := mi_let hF hn27.symm
              have ok := tM_8_s ok v5_22.toNatClampNeg hn27
              have kp28 : (∀ k f : Nat, Nat.testBit 510 (gpM k f) = true → nu27 k f = mu k f) := kp_back ey21 hn22 hkp26_0 (by decide) hn27 kq22_0
              refine lv_iload hx hb dX12_lend_103 (lv_at hl 1 rfl) ?_
              refine lv_if_eq (tgt := 121) hx hb dX12_lend_105 (by decide) (fun c => absurd c (by decide)) (fun _ => ?_)
              refine lv_aload_n hx hb dX12_lend_108 rfl (lv_at hl 6 rfl) ?_
              refine va_get (D := (dC, dI)) (ci := 12) (v := .int (nu27 0 31)) (C := RX12) (T := TX12) (N := 46) hx hb hts inG12 hown hK hP 0 (gM_0 cs ad nu27) rfl 31 (by decide) (hts _ (List.mem_cons_of_mem _ mw_5_72)) (fun _ h9 => h9) rfl dX12_lend_109 ?_
              refine lv_topi (fun y29 ey29 => ?_)
              have hF := mi_let hF ey29
              have by29 : y29.toInt = (nu27 0 31).toInt := congrArg Int32.toInt ey29
              refine lv_iload hx hb dX12_lend_112 (lv_at hl 3 rfl) ?_
              refine lv_icmp_ge (tgt := 121) hx hb dX12_lend_114 (by decide) (fun c_30 => ?_) (fun c_30 => ?_)
              · have hF := (if_pos c_30).symm.trans hF
                have c_30 : v4_22.toInt ≤ y29.toInt := il_le c_30
                refine lv_iconst (v := 0) hx hb dX12_lend_121 (by decide) ?_
                refine lv_istore (lv' := [(8, .int 0), (7, .int y21), (6, .int 1), (5, .int v5_22), (4, .int v4_22), (3, .int v3_22), (2, .int 0), (0, .ref (ad 0)), (1, .int vk)]) hx hb dX12_lend_122 hl (by decide) rfl (fun ls hl => ?_)
                refine lv_iload hx hb dX12_lend_124 (lv_at hl 0 rfl) ?_
                refine lv_if_eq (tgt := 134) hx hb dX12_lend_126 (by decide) (fun _ => ?_) (fun c => absurd (by decide) c)
                refine lv_iload_n hx hb dX12_lend_134 rfl (lv_at hl 5 rfl) ?_
                refine lv_istore_n (lv' := [(3, .int v3_22), (8, .int 0), (7, .int y21), (6, .int 1), (5, .int v5_22), (4, .int v4_22), (2, .int 0), (0, .ref (ad 0)), (1, .int vk)]) hx hb dX12_lend_135 rfl hl (by decide) rfl (fun ls hl => ?_)
                refine lv_iload hx hb dX12_lend_136 (lv_at hl 1 rfl) ?_
                refine lv_if_eq (tgt := 148) hx hb dX12_lend_138 (by decide) (fun _ => ?_) (fun c => absurd (by decide) c)
                refine lv_iload hx hb dX12_lend_148 (lv_at hl 5 rfl) ?_
                refine lv_istore (lv' := [(4, .int v4_22), (3, .int v3_22), (8, .int 0), (7, .int y21), (6, .int 1), (5, .int v5_22), (2, .int 0), (0, .ref (ad 0)), (1, .int vk)]) hx hb dX12_lend_150 hl (by decide) rfl (fun ls hl => ?_)
                refine lv_iinc (v := (v5_22 + 1)) (lv' := [(5, .int (v5_22 + 1)), (4, .int v4_22), (3, .int v3_22), (8, .int 0), (7, .int y21), (6, .int 1), (2, .int 0), (0, .ref (ad 0)), (1, .int vk)]) hx hb dX12_lend_152 hl (k := 5) rfl rfl (by decide) rfl (fun ls hl => ?_)
                refine loc_gen (P := fun w9 => lv_has ls 9 [(5, .int w9), (4, .int v4_22), (3, .int v3_22), (8, .int 0), (7, .int y21), (6, .int 1), (2, .int 0), (0, .ref (ad 0)), (1, .int vk)]) (v5_22 + 1) hl (fun w31 hw31 hl => ?_)
                have hl : lv_has ls 9 [(5, .int w31), (4, .int v4_22), (3, .int v3_22), (8, .int 0), (7, .int y21), (6, .int 1), (2, .int 0), (0, .ref (ad 0)), (1, .int vk)] := hl
                have hF := mi_let hF hw31.symm
                have aw31 : w31.toInt = v5_22.toInt + 1 := by rw [← hw31]; first | exact va1 (Int.lt_of_le_of_lt h_v5_22.2 (by decide)) | exact va1 (by omega)
                refine lv_goto (tgt := 22) hx hb dX12_lend_155 (by decide) ?_
                exact ih22 (v3_22) (v4_22) (w31) nu27 _ _ _ (by first | exact ms_up hm_22 aw31 h_v5_22.2 | exact ms_lt hm_22 (by omega) (by omega) | omega) (by first | exact rg_up aw31 h_v5_22 (by omega) | omega)  ok hP  kp28 hF hS (lv_sub hl [0, 1, 2, 6, 7, 8] rfl)
              · have hF := (if_neg c_30).symm.trans hF
                have c_30 : y29.toInt < v4_22.toInt := il_nle c_30
                refine lv_iconst (v := 1) hx hb dX12_lend_117 (by decide) ?_
                refine lv_goto (tgt := 122) hx hb dX12_lend_118 (by decide) ?_
                refine lv_istore (lv' := [(8, .int 1), (7, .int y21), (6, .int 1), (5, .int v5_22), (4, .int v4_22), (3, .int v3_22), (2, .int 0), (0, .ref (ad 0)), (1, .int vk)]) hx hb dX12_lend_122 hl (by decide) rfl (fun ls hl => ?_)
                refine lv_iload hx hb dX12_lend_124 (lv_at hl 0 rfl) ?_
                refine lv_if_eq (tgt := 134) hx hb dX12_lend_126 (by decide) (fun c => absurd c (by decide)) (fun _ => ?_)
                refine lv_iload hx hb dX12_lend_129 (lv_at hl 3 rfl) ?_
                refine lv_goto (tgt := 135) hx hb dX12_lend_131 (by decide) ?_
                refine lv_istore_n (lv' := [(3, .int v5_22), (8, .int 1), (7, .int y21), (6, .int 1), (5, .int v5_22), (4, .int v4_22), (2, .int 0), (0, .ref (ad 0)), (1, .int vk)]) hx hb dX12_lend_135 rfl hl (by decide) rfl (fun ls hl => ?_)
                refine lv_iload hx hb dX12_lend_136 (lv_at hl 1 rfl) ?_
                refine lv_if_eq (tgt := 148) hx hb dX12_lend_138 (by decide) (fun c => absurd c (by decide)) (fun _ => ?_)
                refine lv_aload_n hx hb dX12_lend_141 rfl (lv_at hl 7 rfl) ?_
                refine va_get (D := (dC, dI)) (ci := 12) (v := .int (nu27 0 31)) (C := RX12) (T := TX12) (N := 46) hx hb hts inG12 hown hK hP 0 (gM_0 cs ad nu27) rfl 31 (by decide) (hts _ (List.mem_cons_of_mem _ mw_5_72)) (fun _ h9 => h9) rfl dX12_lend_142 ?_
                refine lq_i y29 ey29.symm ?_
                refine lv_goto (tgt := 150) hx hb dX12_lend_145 (by decide) ?_
                refine lv_istore (lv' := [(4, .int y29), (3, .int v5_22), (8, .int 1), (7, .int y21), (6, .int 1), (5, .int v5_22), (2, .int 0), (0, .ref (ad 0)), (1, .int vk)]) hx hb dX12_lend_150 hl (by decide) rfl (fun ls hl => ?_)
                refine lv_iinc (v := (v5_22 + 1)) (lv' := [(5, .int (v5_22 + 1)), (4, .int y29), (3, .int v5_22), (8, .int 1), (7, .int y21), (6, .int 1), (2, .int 0), (0, .ref (ad 0)), (1, .int vk)]) hx hb dX12_lend_152 hl (k := 5) rfl rfl (by decide) rfl (fun ls hl => ?_)
                refine loc_gen (P := fun w9 => lv_has ls 9 [(5, .int w9), (4, .int y29), (3, .int v5_22), (8, .int 1), (7, .int y21), (6, .int 1), (2, .int 0), (0, .ref (ad 0)), (1, .int vk)]) (v5_22 + 1) hl (fun w32 hw32 hl => ?_)
                have hl : lv_has ls 9 [(5, .int w32), (4, .int y29), (3, .int v5_22), (8, .int 1), (7, .int y21), (6, .int 1), (2, .int 0), (0, .ref (ad 0)), (1, .int vk)] := hl
                have hF := mi_let hF hw32.symm
                have aw32 : w32.toInt = v5_22.toInt + 1 := by rw [← hw32]; first | exact va1 (Int.lt_of_le_of_lt h_v5_22.2 (by decide)) | exact va1 (by omega)
                refine lv_goto (tgt := 22) hx hb dX12_lend_155 (by decide) ?_
                exact ih22 (v5_22) (y29) (w32) nu27 _ _ _ (by first | exact ms_up hm_22 aw32 h_v5_22.2 | exact ms_lt hm_22 (by omega) (by omega) | omega) (by first | exact rg_up aw32 h_v5_22 (by omega) | omega)  ok hP  kp28 hF hS (lv_sub hl [0, 1, 2, 6, 7, 8] rfl)
            · have hF := (if_pos c_20).symm.trans hF
              have c_20 : y19.toInt = 3 := il_eq c_20
              refine lv_iload hx hb dX12_lend_53 (lv_at hl 0 rfl) ?_
              refine lv_aload_n hx hb dX12_lend_55 rfl (lv_at hl 4 rfl) ?_
              refine lv_iload_n hx hb dX12_lend_56 rfl (lv_at hl 5 rfl) ?_
              refine lv_iconst (v := 1) hx hb dX12_lend_57 (by decide) ?_
              refine cr_i (va_runV (As := [.int vk, .int 1]) (rest := [.int v5_22]) ⟨hx, hb, hml, hown, hts⟩ (sm_letterOf l dC dI cs ad nu22_ ok H hP vk 1 (by have h51 : (1 : Int32).toInt = 1 := rfl; omega)) (cwV 2 hts (wU_V mw_6_48 mw_6_45 mw_6_47 mw_0_38 mw_1_13) rfl rfl rfl (by decide +kernel) ⟨Nat.le_of_ble_eq_true rfl, Nat.le_of_ble_eq_true rfl⟩) ⟨sz_c, va_recv hK hP (ci := 12) (q0 := 0) rfl (gM_0 cs ad nu22_), sz_m hK hz⟩ rfl rfl hl.1 rfl (lv_room (Nat.le_of_ble_eq_true rfl)) dX12_lend_58 ⟨Nat.zero_le _, Nat.zero_le _⟩) hS (fun r33 hw33 locs hS => ?_)
              obtain ⟨hfe33, hw33⟩ := hw33
              have hF := mi_let hF hfe33
              refine lv_icmp_ne (tgt := 68) hx hb dX12_lend_61 (by decide) (fun c_34 => ?_) (fun c_34 => ?_)
              · have hF := (if_neg c_34).symm.trans hF
                have c_34 : ¬ v5_22.toInt = r33.toInt := il_ne c_34
                refine lv_iconst (v := 0) hx hb dX12_lend_68 (by decide) ?_
                refine lv_istore (lv' := [(6, .int 0), (5, .int v5_22), (4, .int v4_22), (3, .int v3_22), (2, .int 0), (0, .ref (ad 0)), (1, .int vk)]) hx hb dX12_lend_69 hl (by decide) rfl (fun ls hl => ?_)
                refine lv_aload_n hx hb dX12_lend_71 rfl (lv_at hl 5 rfl) ?_
                refine va_get (D := (dC, dI)) (ci := 12) (v := .ref (ad 8)) (C := RX12) (T := TX12) (N := 46) hx hb hts inG12 hown hK hP 0 (gM_0 cs ad nu22_) rfl 10 (by decide) (hts _ (List.mem_cons_of_mem _ mw_5_51)) (fun _ h9 => h9) rfl dX12_lend_72 ?_
                refine lv_iload hx hb dX12_lend_75 (lv_at hl 1 rfl) ?_
                refine va_iald hx hb hK hP 8 0 (gM_8 cs ad nu22_) rfl (show vp_in v5_22 7 from vi_of (by omega) (by omega)) dX12_lend_77 ?_
                refine lv_topi (fun y35 ey35 => ?_)
                have hF := mi_let hF ey35
                have by35 : y35.toInt = (nu22_ 8 v5_22.toNatClampNeg).toInt := congrArg Int32.toInt ey35
                refine lv_istore (lv' := [(7, .int y35), (6, .int 0), (5, .int v5_22), (4, .int v4_22), (3, .int v3_22), (2, .int 0), (0, .ref (ad 0)), (1, .int vk)]) hx hb dX12_lend_78 hl (by decide) rfl (fun ls hl => ?_)
                refine lv_aload_n hx hb dX12_lend_80 rfl (lv_at hl 6 rfl) ?_
                refine va_get (D := (dC, dI)) (ci := 12) (v := .ref (ad 8)) (C := RX12) (T := TX12) (N := 46) hx hb hts inG12 hown hK hP 0 (gM_0 cs ad nu22_) rfl 10 (by decide) (hts _ (List.mem_cons_of_mem _ mw_5_51)) (fun _ h9 => h9) rfl dX12_lend_81 ?_
                refine lv_iload hx hb dX12_lend_84 (lv_at hl 2 rfl) ?_
                refine lv_bipush (v := 99) hx hb dX12_lend_86 (by decide) ?_
                refine va_iast hx hb hK hP (wR_D nu22_ hD) hS 8 0 (gM_8 cs ad nu22_) rfl (show vp_in v5_22 7 from vi_of (by omega) (by omega)) dX12_lend_88 (fun H locs hP _ hS => ?_)
                refine wr_gen (upd (nu22_ 8) v5_22.toNatClampNeg 99) hP (rfl) (fun nu36 hn36 hP => ?_)
                have hF := mi_let hF hn36.symm
                have ok := tM_8_s ok v5_22.toNatClampNeg hn36
                have ez37 : y4 = nu36 0 8 := ey4.trans (congrFun (up_k hn36 (by decide)) 8).symm
                have ez38 : y19 = nu36 7 v5_22.toNatClampNeg := ey19.trans (congrFun (up_k hn36 (by decide)) v5_22.toNatClampNeg).symm
                refine lv_aload_n hx hb dX12_lend_89 rfl (lv_at hl 6 rfl) ?_
                refine lv_iload_n hx hb dX12_lend_90 rfl (lv_at hl 7 rfl) ?_
                have hFc := fr_all (wR_D nu36 hD) hS hA
                refine va_callv (va_runV (As := [.int vk]) (rest := []) ⟨hx, hb, hml, hown, hts⟩ (sm_routesOf l dC dI cs ad nu36 ok H hP ((wR_D nu36 hD).weaken (fun _ _ _ _ => trivial)) vk (by omega)) (cwV 1 hts (wU_V mw_6_174 mw_6_171 mw_6_173 mw_0_53 mw_1_13) rfl rfl rfl (by decide +kernel) ⟨Nat.le_of_ble_eq_true rfl, Nat.le_of_ble_eq_true rfl⟩) ⟨sz_c, va_recv hK hP (ci := 12) (q0 := 0) rfl (gM_0 cs ad nu36), sz_m hK hz⟩ rfl rfl hl.1 rfl (lv_room (Nat.le_of_ble_eq_true rfl)) dX12_lend_91 ⟨Nat.zero_le _, Nat.zero_le _⟩) hS (fun q _ h => hFc q h) hFc (fun xi40 t H40 locs ht hvm hw40 hB hz1 hk1 hS => ?_)
                have hP : va_P (dC, dI) vwCl (wR 21 ad (EM cs ad) xi40) H40 := by rw [← ht]; exact hB
                obtain ⟨hfe40, ok, hw40, hkp40_0⟩ := hw40
                have hF := mi_let hF hfe40
                have gr40 : ((xi40 0 39).toInt = -9 ∨ (0 ≤ (xi40 0 39).toInt ∧ (xi40 0 39).toInt ≤ 3)) ∧ ((xi40 0 33).toInt = 0 ∨ (xi40 0 35).toInt ≤ 7) := hw40
                refine lv_aload_n hx hb dX12_lend_94 rfl (lv_at hl 6 rfl) ?_
                refine va_get (D := (dC, dI)) (ci := 12) (v := .ref (ad 8)) (C := RX12) (T := TX12) (N := 46) hx hb hts inG12 hown hK hP 0 (gM_0 cs ad xi40) rfl 10 (by decide) (hts _ (List.mem_cons_of_mem _ mw_5_51)) (fun _ h9 => h9) rfl dX12_lend_95 ?_
                refine lv_iload hx hb dX12_lend_98 (lv_at hl 2 rfl) ?_
                refine lv_iload hx hb dX12_lend_100 (lv_at hl 0 rfl) ?_
                refine va_iast hx hb hK hP (wR_D xi40 hD) hS 8 0 (gM_8 cs ad xi40) rfl (show vp_in v5_22 7 from vi_of (by omega) (by omega)) dX12_lend_102 (fun H locs hP _ hS => ?_)
                refine wr_gen (upd (xi40 8) v5_22.toNatClampNeg y35) hP (rfl) (fun nu41 hn41 hP => ?_)
                have hF := mi_let hF hn41.symm
                have ok := tM_8_s ok v5_22.toNatClampNeg hn41
                have kp42 : (∀ k f : Nat, Nat.testBit 510 (gpM k f) = true → nu41 k f = mu k f) := kp_back ey35 hn36 hkp40_0 (by decide) hn41 kq22_0
                refine lv_iload hx hb dX12_lend_103 (lv_at hl 1 rfl) ?_
                refine lv_if_eq (tgt := 121) hx hb dX12_lend_105 (by decide) (fun _ => ?_) (fun c => absurd (by decide) c)
                refine lv_iconst (v := 0) hx hb dX12_lend_121 (by decide) ?_
                refine lv_istore (lv' := [(8, .int 0), (7, .int y35), (6, .int 0), (5, .int v5_22), (4, .int v4_22), (3, .int v3_22), (2, .int 0), (0, .ref (ad 0)), (1, .int vk)]) hx hb dX12_lend_122 hl (by decide) rfl (fun ls hl => ?_)
                refine lv_iload hx hb dX12_lend_124 (lv_at hl 0 rfl) ?_
                refine lv_if_eq (tgt := 134) hx hb dX12_lend_126 (by decide) (fun _ => ?_) (fun c => absurd (by decide) c)
                refine lv_iload_n hx hb dX12_lend_134 rfl (lv_at hl 5 rfl) ?_
                refine lv_istore_n (lv' := [(3, .int v3_22), (8, .int 0), (7, .int y35), (6, .int 0), (5, .int v5_22), (4, .int v4_22), (2, .int 0), (0, .ref (ad 0)), (1, .int vk)]) hx hb dX12_lend_135 rfl hl (by decide) rfl (fun ls hl => ?_)
                refine lv_iload hx hb dX12_lend_136 (lv_at hl 1 rfl) ?_
                refine lv_if_eq (tgt := 148) hx hb dX12_lend_138 (by decide) (fun _ => ?_) (fun c => absurd (by decide) c)
                refine lv_iload hx hb dX12_lend_148 (lv_at hl 5 rfl) ?_
                refine lv_istore (lv' := [(4, .int v4_22), (3, .int v3_22), (8, .int 0), (7, .int y35), (6, .int 0), (5, .int v5_22), (2, .int 0), (0, .ref (ad 0)), (1, .int vk)]) hx hb dX12_lend_150 hl (by decide) rfl (fun ls hl => ?_)
                refine lv_iinc (v := (v5_22 + 1)) (lv' := [(5, .int (v5_22 + 1)), (4, .int v4_22), (3, .int v3_22), (8, .int 0), (7, .int y35), (6, .int 0), (2, .int 0), (0, .ref (ad 0)), (1, .int vk)]) hx hb dX12_lend_152 hl (k := 5) rfl rfl (by decide) rfl (fun ls hl => ?_)
                refine loc_gen (P := fun w9 => lv_has ls 9 [(5, .int w9), (4, .int v4_22), (3, .int v3_22), (8, .int 0), (7, .int y35), (6, .int 0), (2, .int 0), (0, .ref (ad 0)), (1, .int vk)]) (v5_22 + 1) hl (fun w43 hw43 hl => ?_)
                have hl : lv_has ls 9 [(5, .int w43), (4, .int v4_22), (3, .int v3_22), (8, .int 0), (7, .int y35), (6, .int 0), (2, .int 0), (0, .ref (ad 0)), (1, .int vk)] := hl
                have hF := mi_let hF hw43.symm
                have aw43 : w43.toInt = v5_22.toInt + 1 := by rw [← hw43]; first | exact va1 (Int.lt_of_le_of_lt h_v5_22.2 (by decide)) | exact va1 (by omega)
                refine lv_goto (tgt := 22) hx hb dX12_lend_155 (by decide) ?_
                exact ih22 (v3_22) (v4_22) (w43) nu41 _ _ _ (by first | exact ms_up hm_22 aw43 h_v5_22.2 | exact ms_lt hm_22 (by omega) (by omega) | omega) (by first | exact rg_up aw43 h_v5_22 (by omega) | omega)  ok hP  kp42 hF hS (lv_sub hl [0, 1, 2, 6, 7, 8] rfl)
              · have hF := (if_pos c_34).symm.trans hF
                have c_34 : v5_22.toInt = r33.toInt := il_eq c_34
                refine lv_iconst (v := 1) hx hb dX12_lend_64 (by decide) ?_
                refine lv_goto (tgt := 69) hx hb dX12_lend_65 (by decide) ?_
                refine lv_istore (lv' := [(6, .int 1), (5, .int v5_22), (4, .int v4_22), (3, .int v3_22), (2, .int 0), (0, .ref (ad 0)), (1, .int vk)]) hx hb dX12_lend_69 hl (by decide) rfl (fun ls hl => ?_)
                refine lv_aload_n hx hb dX12_lend_71 rfl (lv_at hl 5 rfl) ?_
                refine va_get (D := (dC, dI)) (ci := 12) (v := .ref (ad 8)) (C := RX12) (T := TX12) (N := 46) hx hb hts inG12 hown hK hP 0 (gM_0 cs ad nu22_) rfl 10 (by decide) (hts _ (List.mem_cons_of_mem _ mw_5_51)) (fun _ h9 => h9) rfl dX12_lend_72 ?_
                refine lv_iload hx hb dX12_lend_75 (lv_at hl 1 rfl) ?_
                refine va_iald hx hb hK hP 8 0 (gM_8 cs ad nu22_) rfl (show vp_in v5_22 7 from vi_of (by omega) (by omega)) dX12_lend_77 ?_
                refine lv_topi (fun y44 ey44 => ?_)
                have hF := mi_let hF ey44
                have by44 : y44.toInt = (nu22_ 8 v5_22.toNatClampNeg).toInt := congrArg Int32.toInt ey44
                refine lv_istore (lv' := [(7, .int y44), (6, .int 1), (5, .int v5_22), (4, .int v4_22), (3, .int v3_22), (2, .int 0), (0, .ref (ad 0)), (1, .int vk)]) hx hb dX12_lend_78 hl (by decide) rfl (fun ls hl => ?_)
                refine lv_aload_n hx hb dX12_lend_80 rfl (lv_at hl 6 rfl) ?_
                refine va_get (D := (dC, dI)) (ci := 12) (v := .ref (ad 8)) (C := RX12) (T := TX12) (N := 46) hx hb hts inG12 hown hK hP 0 (gM_0 cs ad nu22_) rfl 10 (by decide) (hts _ (List.mem_cons_of_mem _ mw_5_51)) (fun _ h9 => h9) rfl dX12_lend_81 ?_
                refine lv_iload hx hb dX12_lend_84 (lv_at hl 2 rfl) ?_
                refine lv_bipush (v := 99) hx hb dX12_lend_86 (by decide) ?_
                refine va_iast hx hb hK hP (wR_D nu22_ hD) hS 8 0 (gM_8 cs ad nu22_) rfl (show vp_in v5_22 7 from vi_of (by omega) (by omega)) dX12_lend_88 (fun H locs hP _ hS => ?_)
                refine wr_gen (upd (nu22_ 8) v5_22.toNatClampNeg 99) hP (rfl) (fun nu45 hn45 hP => ?_)
                have hF := mi_let hF hn45.symm
                have ok := tM_8_s ok v5_22.toNatClampNeg hn45
                have ez46 : y4 = nu45 0 8 := ey4.trans (congrFun (up_k hn45 (by decide)) 8).symm
                have ez47 : y19 = nu45 7 v5_22.toNatClampNeg := ey19.trans (congrFun (up_k hn45 (by decide)) v5_22.toNatClampNeg).symm
                refine lv_aload_n hx hb dX12_lend_89 rfl (lv_at hl 6 rfl) ?_
                refine lv_iload_n hx hb dX12_lend_90 rfl (lv_at hl 7 rfl) ?_
                have hFc := fr_all (wR_D nu45 hD) hS hA
                refine va_callv (va_runV (As := [.int vk]) (rest := []) ⟨hx, hb, hml, hown, hts⟩ (sm_routesOf l dC dI cs ad nu45 ok H hP ((wR_D nu45 hD).weaken (fun _ _ _ _ => trivial)) vk (by omega)) (cwV 1 hts (wU_V mw_6_174 mw_6_171 mw_6_173 mw_0_53 mw_1_13) rfl rfl rfl (by decide +kernel) ⟨Nat.le_of_ble_eq_true rfl, Nat.le_of_ble_eq_true rfl⟩) ⟨sz_c, va_recv hK hP (ci := 12) (q0 := 0) rfl (gM_0 cs ad nu45), sz_m hK hz⟩ rfl rfl hl.1 rfl (lv_room (Nat.le_of_ble_eq_true rfl)) dX12_lend_91 ⟨Nat.zero_le _, Nat.zero_le _⟩) hS (fun q _ h => hFc q h) hFc (fun xi49 t H49 locs ht hvm hw49 hB hz1 hk1 hS => ?_)
                have hP : va_P (dC, dI) vwCl (wR 21 ad (EM cs ad) xi49) H49 := by rw [← ht]; exact hB
                obtain ⟨hfe49, ok, hw49, hkp49_0⟩ := hw49
                have hF := mi_let hF hfe49
                have gr49 : ((xi49 0 39).toInt = -9 ∨ (0 ≤ (xi49 0 39).toInt ∧ (xi49 0 39).toInt ≤ 3)) ∧ ((xi49 0 33).toInt = 0 ∨ (xi49 0 35).toInt ≤ 7) := hw49
                refine lv_aload_n hx hb dX12_lend_94 rfl (lv_at hl 6 rfl) ?_
                refine va_get (D := (dC, dI)) (ci := 12) (v := .ref (ad 8)) (C := RX12) (T := TX12) (N := 46) hx hb hts inG12 hown hK hP 0 (gM_0 cs ad xi49) rfl 10 (by decide) (hts _ (List.mem_cons_of_mem _ mw_5_51)) (fun _ h9 => h9) rfl dX12_lend_95 ?_
                refine lv_iload hx hb dX12_lend_98 (lv_at hl 2 rfl) ?_
                refine lv_iload hx hb dX12_lend_100 (lv_at hl 0 rfl) ?_
                refine va_iast hx hb hK hP (wR_D xi49 hD) hS 8 0 (gM_8 cs ad xi49) rfl (show vp_in v5_22 7 from vi_of (by omega) (by omega)) dX12_lend_102 (fun H locs hP _ hS => ?_)
                refine wr_gen (upd (xi49 8) v5_22.toNatClampNeg y44) hP (rfl) (fun nu50 hn50 hP => ?_)
                have hF := mi_let hF hn50.symm
                have ok := tM_8_s ok v5_22.toNatClampNeg hn50
                have kp51 : (∀ k f : Nat, Nat.testBit 510 (gpM k f) = true → nu50 k f = mu k f) := kp_back ey44 hn45 hkp49_0 (by decide) hn50 kq22_0
                refine lv_iload hx hb dX12_lend_103 (lv_at hl 1 rfl) ?_
                refine lv_if_eq (tgt := 121) hx hb dX12_lend_105 (by decide) (fun c => absurd c (by decide)) (fun _ => ?_)
                refine lv_aload_n hx hb dX12_lend_108 rfl (lv_at hl 6 rfl) ?_
                refine va_get (D := (dC, dI)) (ci := 12) (v := .int (nu50 0 31)) (C := RX12) (T := TX12) (N := 46) hx hb hts inG12 hown hK hP 0 (gM_0 cs ad nu50) rfl 31 (by decide) (hts _ (List.mem_cons_of_mem _ mw_5_72)) (fun _ h9 => h9) rfl dX12_lend_109 ?_
                refine lv_topi (fun y52 ey52 => ?_)
                have hF := mi_let hF ey52
                have by52 : y52.toInt = (nu50 0 31).toInt := congrArg Int32.toInt ey52
                refine lv_iload hx hb dX12_lend_112 (lv_at hl 3 rfl) ?_
                refine lv_icmp_ge (tgt := 121) hx hb dX12_lend_114 (by decide) (fun c_53 => ?_) (fun c_53 => ?_)
                · have hF := (if_pos c_53).symm.trans hF
                  have c_53 : v4_22.toInt ≤ y52.toInt := il_le c_53
                  refine lv_iconst (v := 0) hx hb dX12_lend_121 (by decide) ?_
                  refine lv_istore (lv' := [(8, .int 0), (7, .int y44), (6, .int 1), (5, .int v5_22), (4, .int v4_22), (3, .int v3_22), (2, .int 0), (0, .ref (ad 0)), (1, .int vk)]) hx hb dX12_lend_122 hl (by decide) rfl (fun ls hl => ?_)
                  refine lv_iload hx hb dX12_lend_124 (lv_at hl 0 rfl) ?_
                  refine lv_if_eq (tgt := 134) hx hb dX12_lend_126 (by decide) (fun _ => ?_) (fun c => absurd (by decide) c)
                  refine lv_iload_n hx hb dX12_lend_134 rfl (lv_at hl 5 rfl) ?_
                  refine lv_istore_n (lv' := [(3, .int v3_22), (8, .int 0), (7, .int y44), (6, .int 1), (5, .int v5_22), (4, .int v4_22), (2, .int 0), (0, .ref (ad 0)), (1, .int vk)]) hx hb dX12_lend_135 rfl hl (by decide) rfl (fun ls hl => ?_)
                  refine lv_iload hx hb dX12_lend_136 (lv_at hl 1 rfl) ?_
                  refine lv_if_eq (tgt := 148) hx hb dX12_lend_138 (by decide) (fun _ => ?_) (fun c => absurd (by decide) c)
                  refine lv_iload hx hb dX12_lend_148 (lv_at hl 5 rfl) ?_
                  refine lv_istore (lv' := [(4, .int v4_22), (3, .int v3_22), (8, .int 0), (7, .int y44), (6, .int 1), (5, .int v5_22), (2, .int 0), (0, .ref (ad 0)), (1, .int vk)]) hx hb dX12_lend_150 hl (by decide) rfl (fun ls hl => ?_)
                  refine lv_iinc (v := (v5_22 + 1)) (lv' := [(5, .int (v5_22 + 1)), (4, .int v4_22), (3, .int v3_22), (8, .int 0), (7, .int y44), (6, .int 1), (2, .int 0), (0, .ref (ad 0)), (1, .int vk)]) hx hb dX12_lend_152 hl (k := 5) rfl rfl (by decide) rfl (fun ls hl => ?_)
                  refine loc_gen (P := fun w9 => lv_has ls 9 [(5, .int w9), (4, .int v4_22), (3, .int v3_22), (8, .int 0), (7, .int y44), (6, .int 1), (2, .int 0), (0, .ref (ad 0)), (1, .int vk)]) (v5_22 + 1) hl (fun w54 hw54 hl => ?_)
                  have hl : lv_has ls 9 [(5, .int w54), (4, .int v4_22), (3, .int v3_22), (8, .int 0), (7, .int y44), (6, .int 1), (2, .int 0), (0, .ref (ad 0)), (1, .int vk)] := hl
                  have hF := mi_let hF hw54.symm
                  have aw54 : w54.toInt = v5_22.toInt + 1 := by rw [← hw54]; first | exact va1 (Int.lt_of_le_of_lt h_v5_22.2 (by decide)) | exact va1 (by omega)
                  refine lv_goto (tgt := 22) hx hb dX12_lend_155 (by decide) ?_
                  exact ih22 (v3_22) (v4_22) (w54) nu50 _ _ _ (by first | exact ms_up hm_22 aw54 h_v5_22.2 | exact ms_lt hm_22 (by omega) (by omega) | omega) (by first | exact rg_up aw54 h_v5_22 (by omega) | omega)  ok hP  kp51 hF hS (lv_sub hl [0, 1, 2, 6, 7, 8] rfl)
                · have hF := (if_neg c_53).symm.trans hF
                  have c_53 : y52.toInt < v4_22.toInt := il_nle c_53
                  refine lv_iconst (v := 1) hx hb dX12_lend_117 (by decide) ?_
                  refine lv_goto (tgt := 122) hx hb dX12_lend_118 (by decide) ?_
                  refine lv_istore (lv' := [(8, .int 1), (7, .int y44), (6, .int 1), (5, .int v5_22), (4, .int v4_22), (3, .int v3_22), (2, .int 0), (0, .ref (ad 0)), (1, .int vk)]) hx hb dX12_lend_122 hl (by decide) rfl (fun ls hl => ?_)
                  refine lv_iload hx hb dX12_lend_124 (lv_at hl 0 rfl) ?_
                  refine lv_if_eq (tgt := 134) hx hb dX12_lend_126 (by decide) (fun c => absurd c (by decide)) (fun _ => ?_)
                  refine lv_iload hx hb dX12_lend_129 (lv_at hl 3 rfl) ?_
                  refine lv_goto (tgt := 135) hx hb dX12_lend_131 (by decide) ?_
                  refine lv_istore_n (lv' := [(3, .int v5_22), (8, .int 1), (7, .int y44), (6, .int 1), (5, .int v5_22), (4, .int v4_22), (2, .int 0), (0, .ref (ad 0)), (1, .int vk)]) hx hb dX12_lend_135 rfl hl (by decide) rfl (fun ls hl => ?_)
                  refine lv_iload hx hb dX12_lend_136 (lv_at hl 1 rfl) ?_
                  refine lv_if_eq (tgt := 148) hx hb dX12_lend_138 (by decide) (fun c => absurd c (by decide)) (fun _ => ?_)
                  refine lv_aload_n hx hb dX12_lend_141 rfl (lv_at hl 7 rfl) ?_
                  refine va_get (D := (dC, dI)) (ci := 12) (v := .int (nu50 0 31)) (C := RX12) (T := TX12) (N := 46) hx hb hts inG12 hown hK hP 0 (gM_0 cs ad nu50) rfl 31 (by decide) (hts _ (List.mem_cons_of_mem _ mw_5_72)) (fun _ h9 => h9) rfl dX12_lend_142 ?_
                  refine lq_i y52 ey52.symm ?_
                  refine lv_goto (tgt := 150) hx hb dX12_lend_145 (by decide) ?_
                  refine lv_istore (lv' := [(4, .int y52), (3, .int v5_22), (8, .int 1), (7, .int y44), (6, .int 1), (5, .int v5_22), (2, .int 0), (0, .ref (ad 0)), (1, .int vk)]) hx hb dX12_lend_150 hl (by decide) rfl (fun ls hl => ?_)
                  refine lv_iinc (v := (v5_22 + 1)) (lv' := [(5, .int (v5_22 + 1)), (4, .int y52), (3, .int v5_22), (8, .int 1), (7, .int y44), (6, .int 1), (2, .int 0), (0, .ref (ad 0)), (1, .int vk)]) hx hb dX12_lend_152 hl (k := 5) rfl rfl (by decide) rfl (fun ls hl => ?_)
                  refine loc_gen (P := fun w9 => lv_has ls 9 [(5, .int w9), (4, .int y52), (3, .int v5_22), (8, .int 1), (7, .int y44), (6, .int 1), (2, .int 0), (0, .ref (ad 0)), (1, .int vk)]) (v5_22 + 1) hl (fun w55 hw55 hl => ?_)
                  have hl : lv_has ls 9 [(5, .int w55), (4, .int y52), (3, .int v5_22), (8, .int 1), (7, .int y44), (6, .int 1), (2, .int 0), (0, .ref (ad 0)), (1, .int vk)] := hl
                  have hF := mi_let hF hw55.symm
                  have aw55 : w55.toInt = v5_22.toInt + 1 := by rw [← hw55]; first | exact va1 (Int.lt_of_le_of_lt h_v5_22.2 (by decide)) | exact va1 (by omega)
                  refine lv_goto (tgt := 22) hx hb dX12_lend_155 (by decide) ?_
                  exact ih22 (v5_22) (y52) (w55) nu50 _ _ _ (by first | exact ms_up hm_22 aw55 h_v5_22.2 | exact ms_lt hm_22 (by omega) (by omega) | omega) (by first | exact rg_up aw55 h_v5_22 (by omega) | omega)  ok hP  kp51 hF hS (lv_sub hl [0, 1, 2, 6, 7, 8] rfl)
    exact loop22 10 ((-9)) (1048576) (0) xi1 _ _ _ (by have h80 : ((-9) : Int32).toInt = -9 := rfl; have h81 : (1048576 : Int32).toInt = 1048576 := rfl; have h82 : (0 : Int32).toInt = 0 := rfl; omega) (by have h80 : (0 : Int32).toInt = 0 := rfl; exact ⟨by omega, by omega⟩)  ok hP  kp2 hF hS hl
  · have hF := (if_neg (show ¬ r1 = 0 from fun h => by have h9 := congrArg Int32.toInt h; have h8 : (0 : Int32).toInt = 0 := rfl; omega)).symm.trans hF
    have kp3 : (∀ k f : Nat, Nat.testBit 510 (gpM k f) = true → xi1 k f = mu k f) := kp_t hkp1_0 (by decide) (fun _ _ _ => rfl)
    skip
    refine lv_istore_n (lv' := [(2, .int r1), (0, .ref (ad 0)), (1, .int vk)]) hx hb dX12_lend_5 rfl hl (by decide) rfl (fun ls hl => ?_)
    refine lv_iload_n hx hb dX12_lend_6 rfl (lv_at hl 0 rfl) ?_
    refine lv_if_ge (tgt := 12) hx hb dX12_lend_7 (by decide) (fun c_56 => by have c_56 : 0 ≤ r1.toInt := il_le c_56; exfalso; omega) (fun c_56 => ?_)
    have c_56 : r1.toInt < 0 := il_nle c_56
    refine lv_iload_n hx hb dX12_lend_10 rfl (lv_at hl 0 rfl) ?_
    exact W.iret (v := r1) hx hb hr (fun t ht hW => ⟨⟨r1, xi1, rfl, ⟨hF.trans hfz.symm, ok, trivial, kp3⟩, by first | (subst ht; exact hP) | (rw [ht]; exact hP) | (show va_P (dC, dI) vwCl (wR 21 ad (EM cs ad) xi1) t.heap; rw [ht]; exact hP)⟩, hS.F ht⟩) hS.2.2 dX12_lend_11
theorem mw_5_82 : (Cond.fieldLink RX12 67 "DearLettersModel" "nextWorths" "[I" : Cond) ∈ lw_good := lg_at 5 82 rfl rfl
theorem mw_5_81 : (Cond.fieldLink RX12 64 "DearLettersModel" "worths" "[I" : Cond) ∈ lw_good := lg_at 5 81 rfl rfl
theorem mw_6_232 : (Cond.code yX12_bestOf cX12_bestOf 6 (some .int) : Cond) ∈ lw_good := lg_at 6 232 rfl rfl
theorem mw_6_229 : (Cond.methodLink RX12 273 yX12_bestOf : Cond) ∈ lw_good := lg_at 6 229 rfl rfl
theorem mw_6_231 : (Cond.instanceMethod yX12_bestOf : Cond) ∈ lw_good := lg_at 6 231 rfl rfl
theorem mw_0_59 : (Cond.selects RX12 yX12_bestOf yX12_bestOf : Cond) ∈ lw_good := lg_at 0 59 rfl rfl
theorem mw_7_12 : (Cond.code yX12_buyerAt cX12_buyerAt 3 (some .int) : Cond) ∈ lw_good := lg_at 7 12 rfl rfl
theorem mw_7_9 : (Cond.methodLink RX12 276 yX12_buyerAt : Cond) ∈ lw_good := lg_at 7 9 rfl rfl
theorem mw_7_11 : (Cond.instanceMethod yX12_buyerAt : Cond) ∈ lw_good := lg_at 7 11 rfl rfl
theorem mw_0_60 : (Cond.selects RX12 yX12_buyerAt yX12_buyerAt : Cond) ∈ lw_good := lg_at 0 60 rfl rfl
theorem tM_19_s {mu : Nat → Nat → Int32} (ok : okR loM hiM mu) {nu : Nat → Nat → Int32} {v : Int32} (f : Nat) (hn : va_up mu 19 (upd (mu 19) f v) = nu) : okR loM hiM nu := by
  subst hn
  exact okR_up ok 19 f v (tI_lo v) (tI_hi v)
theorem tM_20_s {mu : Nat → Nat → Int32} (ok : okR loM hiM mu) {nu : Nat → Nat → Int32} {v : Int32} (f : Nat) (hn : va_up mu 20 (upd (mu 20) f v) = nu) : okR loM hiM nu := by
  subst hn
  exact okR_up ok 20 f v (tI_lo v) (tI_hi v)
