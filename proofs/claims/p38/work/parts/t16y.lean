def L_qm_undo_128_1 (t9 : Int32) (v3_28 : Int32) (k_qm_undo_28_0 : (Int32) → (Nat → Nat → Int32) → (Int32 × (Nat → Nat → Int32))) : Nat → (Int32) → (Nat → Nat → Int32) → Int32 × (Nat → Nat → Int32)
  | 0, v6_128, nu128_ => (0, nu128_)
  | n + 1, v6_128, nu128_ =>
    if v6_128 ≥ (7 : Int32) then (
      LETV ((v3_28 + (-1)) : Int32) fun w34 =>
      k_qm_undo_28_0 (w34 : Int32) nu128_
    ) else (
      LETV (t9 + 5 : Int32) fun t35 =>
      LETV (t35 + v6_128 : Int32) fun t36 =>
      LETV (nu128_ 14 t36.toNatClampNeg : Int32) fun y38 =>
      LETV (va_up nu128_ 8 (upd (nu128_ 8) v6_128.toNatClampNeg y38) : Nat → Nat → Int32) fun nu39 =>
      LETV ((v6_128 + 1) : Int32) fun w42 =>
      L_qm_undo_128_1 t9 v3_28 k_qm_undo_28_0 n (w42 : Int32) nu39
    )
def L_qm_undo_28_0 (t3 : Int32) (vn : Int32) : Nat → (Int32) → (Nat → Nat → Int32) → Int32 × (Nat → Nat → Int32)
  | 0, v3_28, nu28_ => (0, nu28_)
  | n + 1, v3_28, nu28_ =>
    if v3_28 < vn then (
      LETV (va_up nu28_ 0 (upd (nu28_ 0) 17 vn) : Nat → Nat → Int32) fun nu6 =>
      ((t3 : Int32), nu6)
    ) else (
      LETV (12 * v3_28 : Int32) fun t9 =>
      LETV (nu28_ 14 t9.toNatClampNeg : Int32) fun y11 =>
      LETV (t9 + 1 : Int32) fun t12 =>
      LETV (nu28_ 14 t12.toNatClampNeg : Int32) fun y14 =>
      LETV (F_sm_setLetter5 nu28_ (y11 : Int32) (y14 : Int32) : Nat → Nat → Int32) fun xi15 =>
      LETV (t9 + 2 : Int32) fun t17 =>
      LETV (xi15 14 t17.toNatClampNeg : Int32) fun y19 =>
      LETV (F_sm_setLetter6 xi15 (y11 : Int32) (y19 : Int32) : Nat → Nat → Int32) fun xi20 =>
      LETV (t9 + 3 : Int32) fun t22 =>
      LETV (xi20 14 t22.toNatClampNeg : Int32) fun y24 =>
      LETV (F_sm_setLetter8 xi20 (y11 : Int32) (y24 : Int32) : Nat → Nat → Int32) fun xi25 =>
      LETV (F_sm_letterOf xi25 (y11 : Int32) (7 : Int32) : Int32) fun r27 =>
      LETV (r27 - 1 : Int32) fun t28 =>
      LETV (F_sm_setLetter7 xi25 (y11 : Int32) (t28 : Int32) : Nat → Nat → Int32) fun xi29 =>
      LETV (F_sm_setLetter9 xi29 (y11 : Int32) (0 : Int32) : Nat → Nat → Int32) fun xi31 =>
      L_qm_undo_128_1 t9 v3_28 (fun z_v3_28 z_nu28_ => L_qm_undo_28_0 t3 vn n z_v3_28 z_nu28_) 10 (0 : Int32) xi31
    )
def F_qm_undo (mu : Nat → Nat → Int32) (vn : Int32) : Int32 × (Nat → Nat → Int32) :=
  LETV (mu 0 17 : Int32) fun y1 =>
  if F_sm_in (vn : Int32) (0 : Int32) (y1 : Int32) = 1 then (
    LETV (y1 - vn : Int32) fun t3 =>
    LETV (y1 - 1 : Int32) fun t4 =>
    L_qm_undo_28_0 t3 vn 43 (t4 : Int32) mu
  ) else (
    (((-1) : Int32), mu)
  )
def L_qm_keep_92_1 (t4 : Int32) : Nat → (Int32) → (Nat → Nat → Int32) → Int32 × (Nat → Nat → Int32)
  | 0, v3_92, nu92_ => (0, nu92_)
  | n + 1, v3_92, nu92_ =>
    if v3_92 ≥ (40 : Int32) then (
      LETV (nu92_ 0 14 : Int32) fun y30 =>
      ((y30 : Int32), nu92_)
    ) else (
      LETV (t4 + 10 : Int32) fun t31 =>
      LETV (t31 + v3_92 : Int32) fun t32 =>
      LETV (nu92_ 10 v3_92.toNatClampNeg : Int32) fun y34 =>
      LETV (va_up nu92_ 15 (upd (nu92_ 15) t32.toNatClampNeg y34) : Nat → Nat → Int32) fun nu36 =>
      LETV ((v3_92 + 1) : Int32) fun w39 =>
      L_qm_keep_92_1 t4 n (w39 : Int32) nu36
    )
def L_qm_keep_62_0 (t4 : Int32) : Nat → (Int32) → (Nat → Nat → Int32) → Int32 × (Nat → Nat → Int32)
  | 0, v3_62, nu62_ => (0, nu62_)
  | n + 1, v3_62, nu62_ =>
    if v3_62 ≥ (7 : Int32) then (
      L_qm_keep_92_1 t4 43 (0 : Int32) nu62_
    ) else (
      LETV (t4 + 3 : Int32) fun t40 =>
      LETV (t40 + v3_62 : Int32) fun t41 =>
      LETV (nu62_ 8 v3_62.toNatClampNeg : Int32) fun y42 =>
      LETV (va_up nu62_ 15 (upd (nu62_ 15) t41.toNatClampNeg y42) : Nat → Nat → Int32) fun nu44 =>
      LETV ((v3_62 + 1) : Int32) fun w47 =>
      L_qm_keep_62_0 t4 n (w47 : Int32) nu44
    )
def F_qm_keep (mu : Nat → Nat → Int32) (vk : Int32) : Int32 × (Nat → Nat → Int32) :=
  if F_sm_in (vk : Int32) (0 : Int32) (2 : Int32) = 1 then (
    LETV (mu 0 8 : Int32) fun y2 =>
    if y2 = (0 : Int32) then (
      (((-4) : Int32), mu)
    ) else (
      LETV (64 * vk : Int32) fun t4 =>
      LETV (mu 0 14 : Int32) fun y5 =>
      LETV (va_up mu 15 (upd (mu 15) t4.toNatClampNeg y5) : Nat → Nat → Int32) fun nu7 =>
      LETV (t4 + 1 : Int32) fun t11 =>
      LETV (nu7 0 13 : Int32) fun y12 =>
      LETV (va_up nu7 15 (upd (nu7 15) t11.toNatClampNeg y12) : Nat → Nat → Int32) fun nu14 =>
      LETV (t4 + 2 : Int32) fun t19 =>
      LETV (nu14 0 15 : Int32) fun y20 =>
      LETV (va_up nu14 15 (upd (nu14 15) t19.toNatClampNeg y20) : Nat → Nat → Int32) fun nu22 =>
      L_qm_keep_62_0 t4 10 (0 : Int32) nu22
    )
  ) else (
    (((-1) : Int32), mu)
  )
def L_qm_on_99_1 (t2 : Int32) : Nat → (Int32) → (Nat → Nat → Int32) → Int32 × (Nat → Nat → Int32)
  | 0, v3_99, nu99_ => (0, nu99_)
  | n + 1, v3_99, nu99_ =>
    if v3_99 ≥ (40 : Int32) then (
      LETV (va_up nu99_ 0 (upd (nu99_ 0) 17 0) : Nat → Nat → Int32) fun nu33 =>
      LETV (nu33 0 14 : Int32) fun y36 =>
      ((y36 : Int32), nu33)
    ) else (
      LETV (t2 + 10 : Int32) fun t37 =>
      LETV (t37 + v3_99 : Int32) fun t38 =>
      LETV (nu99_ 15 t38.toNatClampNeg : Int32) fun y40 =>
      LETV (va_up nu99_ 10 (upd (nu99_ 10) v3_99.toNatClampNeg y40) : Nat → Nat → Int32) fun nu42 =>
      LETV ((v3_99 + 1) : Int32) fun w45 =>
      L_qm_on_99_1 t2 n (w45 : Int32) nu42
    )
def L_qm_on_69_0 (t2 : Int32) : Nat → (Int32) → (Nat → Nat → Int32) → Int32 × (Nat → Nat → Int32)
  | 0, v3_69, nu69_ => (0, nu69_)
  | n + 1, v3_69, nu69_ =>
    if v3_69 ≥ (7 : Int32) then (
      L_qm_on_99_1 t2 43 (0 : Int32) nu69_
    ) else (
      LETV (t2 + 3 : Int32) fun t46 =>
      LETV (t46 + v3_69 : Int32) fun t47 =>
      LETV (nu69_ 15 t47.toNatClampNeg : Int32) fun y49 =>
      LETV (va_up nu69_ 8 (upd (nu69_ 8) v3_69.toNatClampNeg y49) : Nat → Nat → Int32) fun nu50 =>
      LETV ((v3_69 + 1) : Int32) fun w53 =>
      L_qm_on_69_0 t2 n (w53 : Int32) nu50
    )
def F_qm_on (mu : Nat → Nat → Int32) (vk : Int32) : Int32 × (Nat → Nat → Int32) :=
  if F_sm_in (vk : Int32) (0 : Int32) (2 : Int32) = 1 then (
    LETV (64 * vk : Int32) fun t2 =>
    LETV (mu 15 t2.toNatClampNeg : Int32) fun y4 =>
    if y4 = ((-9) : Int32) then (
      LETP (F_sm_meet mu (1 : Int32)) fun r54 xi54 =>
      ((r54 : Int32), xi54)
    ) else (
      LETV (va_up mu 0 (upd (mu 0) 14 y4) : Nat → Nat → Int32) fun nu7 =>
      LETV (t2 + 1 : Int32) fun t11 =>
      LETV (nu7 15 t11.toNatClampNeg : Int32) fun y13 =>
      LETV (va_up nu7 0 (upd (nu7 0) 13 y13) : Nat → Nat → Int32) fun nu14 =>
      LETV (t2 + 2 : Int32) fun t20 =>
      LETV (nu14 15 t20.toNatClampNeg : Int32) fun y22 =>
      LETV (va_up nu14 0 (upd (nu14 0) 15 y22) : Nat → Nat → Int32) fun nu23 =>
      L_qm_on_69_0 t2 10 (0 : Int32) nu23
    )
  ) else (
    (((-1) : Int32), mu)
  )
set_option maxHeartbeats 4000000 in
set_option maxRecDepth 100000 in
/-- qm_undo -/
theorem qm_undo (l : Launch) (dC : Nat → ClassId) (dI : Nat → Nat → Nat) (cs : Nat → ClassId) (ad : Nat → Nat) (mu : Nat → Nat → Int32) (ok : okR loM hiM mu) (H : Heap) (hP : va_P (dC, dI) vwCl (wR 21 ad (EM cs ad) mu) H) (hD0 : va_D (fun _ => True) (wR 21 ad (EM cs ad) mu)) (vn : Int32) : Met l yX12_undo (wU yX12_undo cX12_undo 7 (some .int)) ({ frames := 1, cells := 0, slots := 0, locals := 23 }) (va_Pc [.ref (ad 0), .int vn] (sz_P (dC, dI) vwCl (tyM cs) H)) (va_Qi (fun (z : Int32) (xi : Nat → Nat → Int32) => (z, xi) = F_qm_undo mu vn ∧ okR loM hiM xi ∧ (True) ∧ (∀ k f : Nat, Nat.testBit 486 (gpM k f) = true → xi k f = mu k f)) (fun xi t => va_P (dC, dI) vwCl (wR 21 ad (EM cs ad) xi) t.heap) (va_A (wR 21 ad (EM cs ad) mu) H.size)) 0 0 (va_A (wR 21 ad (EM cs ad) mu) H.size) := by
  refine Met.ofW (cc := cX12_undo) (maxL := 7) (ret := (some .int)) (by decide) rfl ?_
  intro p e s m args below meth c s₁ B hml hv
  obtain ⟨rfl, hh, hK, hz⟩ := hv
  have hx := B.exec
  have hb := B.bytes
  have hr := B.returns
  have hts := atoms_spec (ws := (wU yX12_undo cX12_undo 7 (some .int))) B.pre
  have hown : s.vm.findClass RX12 = some m.cls := findClass_of_methodNamed B.named
  have hlocks := B.notSynchronized
  subst hh
  have hD := hD0.self (sz := s.heap.size)
  have hA : ∀ q : Nat, s.heap.size ≤ q → (va_A (wR 21 ad (EM cs ad) mu) s.heap.size) q := fun q h => Or.inr h
  have hS : va_S (va_A (wR 21 ad (EM cs ad) mu) s.heap.size) s.heap s.heap [] := va_S.rf
  have hl := lv_entry ([.ref (ad 0), .int vn]) (n := 7) (Nat.le_of_ble_eq_true rfl)
  rw [lg_entry_eq]
  generalize (lg_sl ([.ref (ad 0), .int vn]) ++ List.replicate (7 - (lg_sl ([.ref (ad 0), .int vn])).length) Slot.unset).toArray = ls at hl ⊢
  have hl : lv_has ls 7 [(0, .ref (ad 0)), (1, .int vn)] := hl
  obtain ⟨fz, hfz⟩ : ∃ z, F_qm_undo mu vn = z := ⟨_, rfl⟩
  have hF := hfz
  unfold F_qm_undo at hF
  refine lv_iload_n hx hb dX12_undo_0 rfl (lv_at hl 1 rfl) ?_
  refine lv_iconst (v := 0) hx hb dX12_undo_1 (by decide) ?_
  refine lv_aload_n hx hb dX12_undo_2 rfl (lv_at hl 0 rfl) ?_
  refine va_get (D := (dC, dI)) (ci := 12) (v := .int (mu 0 17)) (C := RX12) (T := TX12) (N := 46) hx hb hts inG12 hown hK hP 0 (gM_0 cs ad mu) rfl 17 (by decide) (hts _ (List.mem_cons_of_mem _ mw_5_58)) (fun _ h9 => h9) rfl dX12_undo_3 ?_
  refine lv_topi (fun y1 ey1 => ?_)
  have hF := mi_let hF ey1
  have by1 : y1.toInt = (mu 0 17).toInt := congrArg Int32.toInt ey1
  have gy1 : 0 ≤ y1.toInt ∧ y1.toInt ≤ 40 := by rw [ey1]; exact rM_0_17 ok
  refine cr_i (va_runS (As := [.int vn, .int 0, .int y1]) (rest := []) ⟨hx, hb, hml, hown, hts⟩ (sm_in l dC dI (tyM cs) s.heap vn 0 y1) (va_cwS 3 hts (wU_S mw_5_189 mw_5_187 mw_5_188 mw_1_13) rfl rfl rfl (by decide +kernel) ⟨Nat.le_of_ble_eq_true rfl, Nat.le_of_ble_eq_true rfl⟩) ⟨sz_c, sz_m hK hz⟩ rfl rfl hl.1 rfl (lv_room (Nat.le_of_ble_eq_true rfl)) dX12_undo_6 ⟨Nat.zero_le _, Nat.zero_le _⟩) hS (fun r2 hw2 locs hS => ?_)
  obtain ⟨hfe2, hw2⟩ := hw2
  rcases hw2 with ⟨rfl, f2⟩ | ⟨rfl, f2⟩
  · have hF := (if_pos hfe2.symm).symm.trans hF
    have f2 : (0 : Int) ≤ vn.toInt ∧ vn.toInt ≤ y1.toInt := f2
    refine lv_if_ne (tgt := 14) hx hb dX12_undo_9 (by decide) (fun _ => ?_) (fun c => absurd c (by decide))
    refine lv_aload_n hx hb dX12_undo_14 rfl (lv_at hl 0 rfl) ?_
    refine va_get (D := (dC, dI)) (ci := 12) (v := .int (mu 0 17)) (C := RX12) (T := TX12) (N := 46) hx hb hts inG12 hown hK hP 0 (gM_0 cs ad mu) rfl 17 (by decide) (hts _ (List.mem_cons_of_mem _ mw_5_58)) (fun _ h9 => h9) rfl dX12_undo_15 ?_
    refine lq_i y1 ey1.symm ?_
    refine lv_iload_n hx hb dX12_undo_18 rfl (lv_at hl 1 rfl) ?_
    refine lv_isub hx hb dX12_undo_19 ?_
    refine lv_topi (fun t3 et3 => ?_)
    have hF := mi_let hF et3
    have at3 : t3.toInt = y1.toInt - vn.toInt := by rw [et3]; exact tI_sub (rfl : y1.toInt = _) (rfl : vn.toInt = _) (by omega) (by omega)
    refine lv_istore_n (lv' := [(2, .int t3), (0, .ref (ad 0)), (1, .int vn)]) hx hb dX12_undo_20 rfl hl (by decide) rfl (fun ls hl => ?_)
    refine lv_aload_n hx hb dX12_undo_21 rfl (lv_at hl 1 rfl) ?_
    refine va_get (D := (dC, dI)) (ci := 12) (v := .int (mu 0 17)) (C := RX12) (T := TX12) (N := 46) hx hb hts inG12 hown hK hP 0 (gM_0 cs ad mu) rfl 17 (by decide) (hts _ (List.mem_cons_of_mem _ mw_5_58)) (fun _ h9 => h9) rfl dX12_undo_22 ?_
    refine lq_i y1 ey1.symm ?_
    refine lv_iconst (v := 1) hx hb dX12_undo_25 (by decide) ?_
    refine lv_isub hx hb dX12_undo_26 ?_
    refine lv_topi (fun t4 et4 => ?_)
    have hF := mi_let hF et4
    have at4 : t4.toInt = y1.toInt - 1 := by rw [et4]; exact tI_sub (rfl : y1.toInt = _) (rfl : (1 : Int32).toInt = 1) (by omega) (by omega)
    refine lv_istore_n (lv' := [(3, .int t4), (2, .int t3), (0, .ref (ad 0)), (1, .int vn)]) hx hb dX12_undo_27 rfl hl (by decide) rfl (fun ls hl => ?_)
    have loop28 : ∀ (n28 : Nat) (v3_28 : Int32) (nu28_ : Nat → Nat → Int32) (H : Heap) (locs : List Loc) (ls : Array Slot), (v3_28.toInt + 1 - -1).toNat < n28 → (-1 ≤ v3_28.toInt ∧ v3_28.toInt ≤ 39) → okR loM hiM nu28_ → va_P (dC, dI) vwCl (wR 21 ad (EM cs ad) nu28_) H → (∀ k f : Nat, Nat.testBit 486 (gpM k f) = true → nu28_ k f = mu k f) → L_qm_undo_28_0 t3 vn n28 v3_28 nu28_ = fz → va_S (va_A (wR 21 ad (EM cs ad) mu) s.heap.size) s.heap H locs → lv_has ls 7 [(3, .int v3_28), (2, .int t3), (0, .ref (ad 0)), (1, .int vn)] → W p l e (headSpec (wU yX12_undo cX12_undo 7 (some .int)) ({ frames := 1, cells := 0, slots := 0, locals := 23 })).room s m ([.ref (ad 0), .int vn] : List Value).toArray below meth c H locs 0 0 (MQ below (va_Qi (fun (z : Int32) (xi : Nat → Nat → Int32) => (z, xi) = F_qm_undo mu vn ∧ okR loM hiM xi ∧ (True) ∧ (∀ k f : Nat, Nat.testBit 486 (gpM k f) = true → xi k f = mu k f)) (fun xi t => va_P (dC, dI) vwCl (wR 21 ad (EM cs ad) xi) t.heap) (va_A (wR 21 ad (EM cs ad) mu) s.heap.size)) ([.ref (ad 0), .int vn] : List Value).toArray s 0 0 (va_A (wR 21 ad (EM cs ad) mu) s.heap.size)) (F0 m 28 ls []) := by
      intro n28
      induction n28 with
      | zero => intro v3_28 nu28_ H locs ls hm; exact absurd hm (Nat.not_lt_zero _)
      | succ n28 ih28 =>
        intro v3_28 nu28_ H locs ls hm_28 h_v3_28 ok hP kq28_0 hF hS hl
        rw [L_qm_undo_28_0] at hF
        refine lv_iload_n hx hb dX12_undo_28 rfl (lv_at hl 0 rfl) ?_
        refine lv_iload_n hx hb dX12_undo_29 rfl (lv_at hl 3 rfl) ?_
        refine lv_icmp_lt (tgt := 166) hx hb dX12_undo_30 (by decide) (fun c_5 => ?_) (fun c_5 => ?_)
        · have hF := (if_pos c_5).symm.trans hF
          have c_5 : v3_28.toInt < vn.toInt := il_lt c_5
          refine lv_aload_n hx hb dX12_undo_166 rfl (lv_at hl 2 rfl) ?_
          refine lv_iload_n hx hb dX12_undo_167 rfl (lv_at hl 3 rfl) ?_
          refine va_put (D := (dC, dI)) (ci := 12) (v := .int vn) (ty := .int) (C := RX12) (T := TX12) (N := 46) hx hb hts inG12 tyX12 tyX12_ok nmX12 hown hK hP (wR_D nu28_ hD) hS 0 (gM_0 cs ad nu28_) rfl 17 (by decide) (hts _ (List.mem_cons_of_mem _ mw_5_58)) (fun _ h9 => h9) rfl (by decide +kernel) rfl rfl (Nat.le_of_ble_eq_true rfl) dX12_undo_168 (fun H locs hP _ hS => ?_)
          simp only [List.set_cons_succ, List.set_cons_zero] at hP
          refine wr_gen (upd (nu28_ 0) 17 vn) hP ((hM_0_17 cs ad _ _)) (fun nu6 hn6 hP => ?_)
          have hF := mi_let hF hn6.symm
          have ok := tM_0_17 ok hn6 (by omega)
          have kp7 : (∀ k f : Nat, Nat.testBit 486 (gpM k f) = true → nu6 k f = mu k f) := kp_f hn6 (by decide) kq28_0
          have ez8 : vn = nu6 0 17 := up_v hn6
          refine lv_iload_n hx hb dX12_undo_171 rfl (lv_at hl 1 rfl) ?_
          exact W.iret (v := t3) hx hb hr (fun t ht hW => ⟨⟨t3, nu6, rfl, ⟨hF.trans hfz.symm, ok, trivial, kp7⟩, by first | (subst ht; exact hP) | (rw [ht]; exact hP) | (show va_P (dC, dI) vwCl (wR 21 ad (EM cs ad) nu6) t.heap; rw [ht]; exact hP)⟩, hS.F ht⟩) hS.2.2 dX12_undo_172
        · have hF := (if_neg c_5).symm.trans hF
          have c_5 : vn.toInt ≤ v3_28.toInt := il_nlt c_5
          refine lv_bipush (v := 12) hx hb dX12_undo_33 (by decide) ?_
          refine lv_iload_n hx hb dX12_undo_35 rfl (lv_at hl 0 rfl) ?_
          refine lv_imul hx hb dX12_undo_36 ?_
          refine lv_topi (fun t9 et9 => ?_)
          have hF := mi_let hF et9
          have at9 : t9.toInt = 12 * v3_28.toInt := by rw [et9]; exact tI_mul (rfl : (12 : Int32).toInt = 12) (rfl : v3_28.toInt = _) (by omega) (by omega)
          refine lv_istore (lv' := [(4, .int t9), (3, .int v3_28), (2, .int t3), (0, .ref (ad 0)), (1, .int vn)]) hx hb dX12_undo_37 hl (by decide) rfl (fun ls hl => ?_)
          refine lv_aload_n hx hb dX12_undo_39 rfl (lv_at hl 3 rfl) ?_
          refine va_get (D := (dC, dI)) (ci := 12) (v := .ref (ad 14)) (C := RX12) (T := TX12) (N := 46) hx hb hts inG12 hown hK hP 0 (gM_0 cs ad nu28_) rfl 24 (by decide) (hts _ (List.mem_cons_of_mem _ mw_5_65)) (fun _ h9 => h9) rfl dX12_undo_40 ?_
          refine lv_iload hx hb dX12_undo_43 (lv_at hl 0 rfl) ?_
          refine va_iald hx hb hK hP 14 0 (gM_14 cs ad nu28_) rfl (show vp_in t9 480 from vi_of (by omega) (by omega)) dX12_undo_45 ?_
          have hc10 : ((t9 : Int32).toNatClampNeg : Int) = t9.toInt := tC_of (by omega)
          refine lv_topi (fun y11 ey11 => ?_)
          have hF := mi_let hF ey11
          have by11 : y11.toInt = (nu28_ 14 t9.toNatClampNeg).toInt := congrArg Int32.toInt ey11
          have gy11 : 0 ≤ y11.toInt ∧ y11.toInt ≤ 3 := by rw [ey11]; exact (rM_14_s ok t9.toNatClampNeg).1 (by omega)
          refine lv_istore (lv' := [(5, .int y11), (4, .int t9), (3, .int v3_28), (2, .int t3), (0, .ref (ad 0)), (1, .int vn)]) hx hb dX12_undo_46 hl (by decide) rfl (fun ls hl => ?_)
          refine lv_aload_n hx hb dX12_undo_48 rfl (lv_at hl 4 rfl) ?_
          refine lv_iload hx hb dX12_undo_49 (lv_at hl 0 rfl) ?_
          refine lv_iconst (v := 5) hx hb dX12_undo_51 (by decide) ?_
          refine lv_aload_n hx hb dX12_undo_52 rfl (lv_at hl 4 rfl) ?_
          refine va_get (D := (dC, dI)) (ci := 12) (v := .ref (ad 14)) (C := RX12) (T := TX12) (N := 46) hx hb hts inG12 hown hK hP 0 (gM_0 cs ad nu28_) rfl 24 (by decide) (hts _ (List.mem_cons_of_mem _ mw_5_65)) (fun _ h9 => h9) rfl dX12_undo_53 ?_
          refine lv_iload hx hb dX12_undo_56 (lv_at hl 1 rfl) ?_
          refine lv_iconst (v := 1) hx hb dX12_undo_58 (by decide) ?_
          refine lv_iadd hx hb dX12_undo_59 ?_
          refine lv_topi (fun t12 et12 => ?_)
          have hF := mi_let hF et12
          have at12 : t12.toInt = t9.toInt + 1 := by rw [et12]; exact va1 (by omega)
          refine va_iald hx hb hK hP 14 0 (gM_14 cs ad nu28_) rfl (show vp_in t12 480 from vi_of (by omega) (by omega)) dX12_undo_60 ?_
          have hc13 : ((t12 : Int32).toNatClampNeg : Int) = t12.toInt := tC_of (by omega)
          refine lv_topi (fun y14 ey14 => ?_)
          have hF := mi_let hF ey14
          have by14 : y14.toInt = (nu28_ 14 t12.toNatClampNeg).toInt := congrArg Int32.toInt ey14
          have gy14 : 0 ≤ y14.toInt ∧ y14.toInt ≤ 6 := by rw [ey14]; exact (rM_14_s ok t12.toNatClampNeg).2 (by omega)
          have hFc := fr_all (wR_D nu28_ hD) hS hA
          refine va_callv (va_runV (As := [.int y11, .int 5, .int y14]) (rest := []) ⟨hx, hb, hml, hown, hts⟩ (sm_setLetter5 l dC dI cs ad nu28_ ok H hP ((wR_D nu28_ hD).weaken (fun _ _ _ _ => trivial)) y11 y14 (by have h51 : (5 : Int32).toInt = 5 := rfl; omega) (by have h51 : (5 : Int32).toInt = 5 := rfl; omega)) (cwV 3 hts (wU_V mw_6_106 mw_6_103 mw_6_105 mw_0_45 mw_1_13) rfl rfl rfl (by decide +kernel) ⟨Nat.le_of_ble_eq_true rfl, Nat.le_of_ble_eq_true rfl⟩) ⟨sz_c, va_recv hK hP (ci := 12) (q0 := 0) rfl (gM_0 cs ad nu28_), sz_m hK hz⟩ rfl rfl hl.1 rfl (lv_room (Nat.le_of_ble_eq_true rfl)) dX12_undo_61 ⟨Nat.zero_le _, Nat.zero_le _⟩) hS (fun q _ h => hFc q h) hFc (fun xi15 t H15 locs ht hvm hw15 hB hz1 hk1 hS => ?_)
          have hP : va_P (dC, dI) vwCl (wR 21 ad (EM cs ad) xi15) H15 := by rw [← ht]; exact hB
          obtain ⟨hfe15, ok, hw15, hkp15_0⟩ := hw15
          have hF := mi_let hF hfe15
          have kp16 : (∀ k f : Nat, Nat.testBit 486 (gpM k f) = true → xi15 k f = mu k f) := kp_t hkp15_0 (by decide) kq28_0
          refine lv_aload_n hx hb dX12_undo_64 rfl (lv_at hl 4 rfl) ?_
          refine lv_iload hx hb dX12_undo_65 (lv_at hl 0 rfl) ?_
          refine lv_bipush (v := 6) hx hb dX12_undo_67 (by decide) ?_
          refine lv_aload_n hx hb dX12_undo_69 rfl (lv_at hl 4 rfl) ?_
          refine va_get (D := (dC, dI)) (ci := 12) (v := .ref (ad 14)) (C := RX12) (T := TX12) (N := 46) hx hb hts inG12 hown hK hP 0 (gM_0 cs ad xi15) rfl 24 (by decide) (hts _ (List.mem_cons_of_mem _ mw_5_65)) (fun _ h9 => h9) rfl dX12_undo_70 ?_
          refine lv_iload hx hb dX12_undo_73 (lv_at hl 1 rfl) ?_
          refine lv_iconst (v := 2) hx hb dX12_undo_75 (by decide) ?_
          refine lv_iadd hx hb dX12_undo_76 ?_
          refine lv_topi (fun t17 et17 => ?_)
          have hF := mi_let hF et17
          have at17 : t17.toInt = t9.toInt + 2 := by rw [et17]; exact tI_add (rfl : t9.toInt = _) (rfl : (2 : Int32).toInt = 2) (by omega) (by omega)
          refine va_iald hx hb hK hP 14 0 (gM_14 cs ad xi15) rfl (show vp_in t17 480 from vi_of (by omega) (by omega)) dX12_undo_77 ?_
          have hc18 : ((t17 : Int32).toNatClampNeg : Int) = t17.toInt := tC_of (by omega)
          refine lv_topi (fun y19 ey19 => ?_)
          have hF := mi_let hF ey19
          have by19 : y19.toInt = (xi15 14 t17.toNatClampNeg).toInt := congrArg Int32.toInt ey19
          have hFc := fr_all (wR_D xi15 hD) hS hA
          refine va_callv (va_runV (As := [.int y11, .int 6, .int y19]) (rest := []) ⟨hx, hb, hml, hown, hts⟩ (sm_setLetter6 l dC dI cs ad xi15 ok H15 hP ((wR_D xi15 hD).weaken (fun _ _ _ _ => trivial)) y11 y19 (by have h51 : (6 : Int32).toInt = 6 := rfl; omega)) (cwV 3 hts (wU_V mw_6_106 mw_6_103 mw_6_105 mw_0_45 mw_1_13) rfl rfl rfl (by decide +kernel) ⟨Nat.le_of_ble_eq_true rfl, Nat.le_of_ble_eq_true rfl⟩) ⟨sz_c, va_recv hK hP (ci := 12) (q0 := 0) rfl (gM_0 cs ad xi15), sz_m hK hz⟩ rfl rfl hl.1 rfl (lv_room (Nat.le_of_ble_eq_true rfl)) dX12_undo_78 ⟨Nat.zero_le _, Nat.zero_le _⟩) hS (fun q _ h => hFc q h) hFc (fun xi20 t H20 locs ht hvm hw20 hB hz1 hk1 hS => ?_)
          have hP : va_P (dC, dI) vwCl (wR 21 ad (EM cs ad) xi20) H20 := by rw [← ht]; exact hB
          obtain ⟨hfe20, ok, hw20, hkp20_0⟩ := hw20
          have hF := mi_let hF hfe20
          have kp21 : (∀ k f : Nat, Nat.testBit 486 (gpM k f) = true → xi20 k f = mu k f) := kp_t hkp20_0 (by decide) kp16
          refine lv_aload_n hx hb dX12_undo_81 rfl (lv_at hl 4 rfl) ?_
          refine lv_iload hx hb dX12_undo_82 (lv_at hl 0 rfl) ?_
          refine lv_bipush (v := 8) hx hb dX12_undo_84 (by decide) ?_
          refine lv_aload_n hx hb dX12_undo_86 rfl (lv_at hl 4 rfl) ?_
          refine va_get (D := (dC, dI)) (ci := 12) (v := .ref (ad 14)) (C := RX12) (T := TX12) (N := 46) hx hb hts inG12 hown hK hP 0 (gM_0 cs ad xi20) rfl 24 (by decide) (hts _ (List.mem_cons_of_mem _ mw_5_65)) (fun _ h9 => h9) rfl dX12_undo_87 ?_
          refine lv_iload hx hb dX12_undo_90 (lv_at hl 1 rfl) ?_
          refine lv_iconst (v := 3) hx hb dX12_undo_92 (by decide) ?_
          refine lv_iadd hx hb dX12_undo_93 ?_
          refine lv_topi (fun t22 et22 => ?_)
          have hF := mi_let hF et22
          have at22 : t22.toInt = t9.toInt + 3 := by rw [et22]; exact tI_add (rfl : t9.toInt = _) (rfl : (3 : Int32).toInt = 3) (by omega) (by omega)
          refine va_iald hx hb hK hP 14 0 (gM_14 cs ad xi20) rfl (show vp_in t22 480 from vi_of (by omega) (by omega)) dX12_undo_94 ?_
          have hc23 : ((t22 : Int32).toNatClampNeg : Int) = t22.toInt := tC_of (by omega)
          refine lv_topi (fun y24 ey24 => ?_)
          have hF := mi_let hF ey24
          have by24 : y24.toInt = (xi20 14 t22.toNatClampNeg).toInt := congrArg Int32.toInt ey24
          have hFc := fr_all (wR_D xi20 hD) hS hA
          refine va_callv (va_runV (As := [.int y11, .int 8, .int y24]) (rest := []) ⟨hx, hb, hml, hown, hts⟩ (sm_setLetter8 l dC dI cs ad xi20 ok H20 hP ((wR_D xi20 hD).weaken (fun _ _ _ _ => trivial)) y11 y24 (by have h51 : (8 : Int32).toInt = 8 := rfl; omega)) (cwV 3 hts (wU_V mw_6_106 mw_6_103 mw_6_105 mw_0_45 mw_1_13) rfl rfl rfl (by decide +kernel) ⟨Nat.le_of_ble_eq_true rfl, Nat.le_of_ble_eq_true rfl⟩) ⟨sz_c, va_recv hK hP (ci := 12) (q0 := 0) rfl (gM_0 cs ad xi20), sz_m hK hz⟩ rfl rfl hl.1 rfl (lv_room (Nat.le_of_ble_eq_true rfl)) dX12_undo_95 ⟨Nat.zero_le _, Nat.zero_le _⟩) hS (fun q _ h => hFc q h) hFc (fun xi25 t H25 locs ht hvm hw25 hB hz1 hk1 hS => ?_)
          have hP : va_P (dC, dI) vwCl (wR 21 ad (EM cs ad) xi25) H25 := by rw [← ht]; exact hB
          obtain ⟨hfe25, ok, hw25, hkp25_0⟩ := hw25
          have hF := mi_let hF hfe25
          have kp26 : (∀ k f : Nat, Nat.testBit 486 (gpM k f) = true → xi25 k f = mu k f) := kp_t hkp25_0 (by decide) kp21
          refine lv_aload_n hx hb dX12_undo_98 rfl (lv_at hl 4 rfl) ?_
          refine lv_iload hx hb dX12_undo_99 (lv_at hl 0 rfl) ?_
          refine lv_bipush (v := 7) hx hb dX12_undo_101 (by decide) ?_
          refine lv_aload_n hx hb dX12_undo_103 rfl (lv_at hl 4 rfl) ?_
          refine lv_iload hx hb dX12_undo_104 (lv_at hl 0 rfl) ?_
          refine lv_bipush (v := 7) hx hb dX12_undo_106 (by decide) ?_
          refine cr_i (va_runV (As := [.int y11, .int 7]) (rest := [.int 7, .int y11, .ref (ad 0)]) ⟨hx, hb, hml, hown, hts⟩ (sm_letterOf l dC dI cs ad xi25 ok H25 hP y11 7 (by have h51 : (7 : Int32).toInt = 7 := rfl; omega)) (cwV 2 hts (wU_V mw_6_48 mw_6_45 mw_6_47 mw_0_38 mw_1_13) rfl rfl rfl (by decide +kernel) ⟨Nat.le_of_ble_eq_true rfl, Nat.le_of_ble_eq_true rfl⟩) ⟨sz_c, va_recv hK hP (ci := 12) (q0 := 0) rfl (gM_0 cs ad xi25), sz_m hK hz⟩ rfl rfl hl.1 rfl (lv_room (Nat.le_of_ble_eq_true rfl)) dX12_undo_108 ⟨Nat.zero_le _, Nat.zero_le _⟩) hS (fun r27 hw27 locs hS => ?_)
          obtain ⟨hfe27, hw27⟩ := hw27
          have hF := mi_let hF hfe27
          refine lv_iconst (v := 1) hx hb dX12_undo_111 (by decide) ?_
          refine lv_isub hx hb dX12_undo_112 ?_
          refine lv_topi (fun t28 et28 => ?_)
          have hF := mi_let hF et28
          have hFc := fr_all (wR_D xi25 hD) hS hA
          refine va_callv (va_runV (As := [.int y11, .int 7, .int t28]) (rest := []) ⟨hx, hb, hml, hown, hts⟩ (sm_setLetter7 l dC dI cs ad xi25 ok H25 hP ((wR_D xi25 hD).weaken (fun _ _ _ _ => trivial)) y11 t28 (by have h51 : (7 : Int32).toInt = 7 := rfl; omega)) (cwV 3 hts (wU_V mw_6_106 mw_6_103 mw_6_105 mw_0_45 mw_1_13) rfl rfl rfl (by decide +kernel) ⟨Nat.le_of_ble_eq_true rfl, Nat.le_of_ble_eq_true rfl⟩) ⟨sz_c, va_recv hK hP (ci := 12) (q0 := 0) rfl (gM_0 cs ad xi25), sz_m hK hz⟩ rfl rfl hl.1 rfl (lv_room (Nat.le_of_ble_eq_true rfl)) dX12_undo_113 ⟨Nat.zero_le _, Nat.zero_le _⟩) hS (fun q _ h => hFc q h) hFc (fun xi29 t H29 locs ht hvm hw29 hB hz1 hk1 hS => ?_)
          have hP : va_P (dC, dI) vwCl (wR 21 ad (EM cs ad) xi29) H29 := by rw [← ht]; exact hB
          obtain ⟨hfe29, ok, hw29, hkp29_0⟩ := hw29
          have hF := mi_let hF hfe29
          have kp30 : (∀ k f : Nat, Nat.testBit 486 (gpM k f) = true → xi29 k f = mu k f) := kp_t hkp29_0 (by decide) kp26
          refine lv_aload_n hx hb dX12_undo_116 rfl (lv_at hl 4 rfl) ?_
          refine lv_iload hx hb dX12_undo_117 (lv_at hl 0 rfl) ?_
          refine lv_bipush (v := 9) hx hb dX12_undo_119 (by decide) ?_
          refine lv_iconst (v := 0) hx hb dX12_undo_121 (by decide) ?_
          have hFc := fr_all (wR_D xi29 hD) hS hA
          refine va_callv (va_runV (As := [.int y11, .int 9, .int 0]) (rest := []) ⟨hx, hb, hml, hown, hts⟩ (sm_setLetter9 l dC dI cs ad xi29 ok H29 hP ((wR_D xi29 hD).weaken (fun _ _ _ _ => trivial)) y11 0 (by have h51 : (9 : Int32).toInt = 9 := rfl; have h52 : (0 : Int32).toInt = 0 := rfl; omega)) (cwV 3 hts (wU_V mw_6_106 mw_6_103 mw_6_105 mw_0_45 mw_1_13) rfl rfl rfl (by decide +kernel) ⟨Nat.le_of_ble_eq_true rfl, Nat.le_of_ble_eq_true rfl⟩) ⟨sz_c, va_recv hK hP (ci := 12) (q0 := 0) rfl (gM_0 cs ad xi29), sz_m hK hz⟩ rfl rfl hl.1 rfl (lv_room (Nat.le_of_ble_eq_true rfl)) dX12_undo_122 ⟨Nat.zero_le _, Nat.zero_le _⟩) hS (fun q _ h => hFc q h) hFc (fun xi31 t H31 locs ht hvm hw31 hB hz1 hk1 hS => ?_)
          have hP : va_P (dC, dI) vwCl (wR 21 ad (EM cs ad) xi31) H31 := by rw [← ht]; exact hB
          obtain ⟨hfe31, ok, hw31, hkp31_0⟩ := hw31
          have hF := mi_let hF hfe31
          have kp32 : (∀ k f : Nat, Nat.testBit 486 (gpM k f) = true → xi31 k f = mu k f) := kp_t hkp31_0 (by decide) kp30
          refine lv_iconst (v := 0) hx hb dX12_undo_125 (by decide) ?_
          refine lv_istore (lv' := [(6, .int 0), (5, .int y11), (4, .int t9), (3, .int v3_28), (2, .int t3), (0, .ref (ad 0)), (1, .int vn)]) hx hb dX12_undo_126 hl (by decide) rfl (fun ls hl => ?_)
          have loop128 : ∀ (n128 : Nat) (v6_128 : Int32) (nu128_ : Nat → Nat → Int32) (H : Heap) (locs : List Loc) (ls : Array Slot), (7 + 1 - v6_128.toInt).toNat < n128 → (0 ≤ v6_128.toInt ∧ v6_128.toInt ≤ 7) → okR loM hiM nu128_ → va_P (dC, dI) vwCl (wR 21 ad (EM cs ad) nu128_) H → (∀ k f : Nat, Nat.testBit 486 (gpM k f) = true → nu128_ k f = mu k f) → L_qm_undo_128_1 t9 v3_28 (fun z_v3_28 z_nu28_ => L_qm_undo_28_0 t3 vn n28 z_v3_28 z_nu28_) n128 v6_128 nu128_ = fz → va_S (va_A (wR 21 ad (EM cs ad) mu) s.heap.size) s.heap H locs → lv_has ls 7 [(6, .int v6_128), (5, .int y11), (4, .int t9), (3, .int v3_28), (2, .int t3), (0, .ref (ad 0)), (1, .int vn)] → W p l e (headSpec (wU yX12_undo cX12_undo 7 (some .int)) ({ frames := 1, cells := 0, slots := 0, locals := 23 })).room s m ([.ref (ad 0), .int vn] : List Value).toArray below meth c H locs 0 0 (MQ below (va_Qi (fun (z : Int32) (xi : Nat → Nat → Int32) => (z, xi) = F_qm_undo mu vn ∧ okR loM hiM xi ∧ (True) ∧ (∀ k f : Nat, Nat.testBit 486 (gpM k f) = true → xi k f = mu k f)) (fun xi t => va_P (dC, dI) vwCl (wR 21 ad (EM cs ad) xi) t.heap) (va_A (wR 21 ad (EM cs ad) mu) s.heap.size)) ([.ref (ad 0), .int vn] : List Value).toArray s 0 0 (va_A (wR 21 ad (EM cs ad) mu) s.heap.size)) (F0 m 128 ls []) := by
            intro n128
            induction n128 with
            | zero => intro v6_128 nu128_ H locs ls hm; exact absurd hm (Nat.not_lt_zero _)
            | succ n128 ih128 =>
              intro v6_128 nu128_ H locs ls hm_128 h_v6_128 ok hP kq128_0 hF hS hl
              rw [L_qm_undo_128_1] at hF
              refine lv_iload hx hb dX12_undo_128 (lv_at hl 0 rfl) ?_
              refine lv_bipush (v := 7) hx hb dX12_undo_130 (by decide) ?_
              refine lv_icmp_ge (tgt := 160) hx hb dX12_undo_132 (by decide) (fun c_33 => ?_) (fun c_33 => ?_)
              · have hF := (if_pos c_33).symm.trans hF
                have c_33 : 7 ≤ v6_128.toInt := il_le c_33
                refine lv_iinc (v := (v3_28 + (-1))) (lv' := [(3, .int (v3_28 + (-1))), (6, .int v6_128), (5, .int y11), (4, .int t9), (2, .int t3), (0, .ref (ad 0)), (1, .int vn)]) hx hb dX12_undo_160 hl (k := 3) rfl rfl (by decide) rfl (fun ls hl => ?_)
                refine loc_gen (P := fun w9 => lv_has ls 7 [(3, .int w9), (6, .int v6_128), (5, .int y11), (4, .int t9), (2, .int t3), (0, .ref (ad 0)), (1, .int vn)]) (v3_28 + (-1)) hl (fun w34 hw34 hl => ?_)
                have hl : lv_has ls 7 [(3, .int w34), (6, .int v6_128), (5, .int y11), (4, .int t9), (2, .int t3), (0, .ref (ad 0)), (1, .int vn)] := hl
                have hF := mi_let hF hw34.symm
                have aw34 : w34.toInt = v3_28.toInt + (-1) := by rw [← hw34]; exact tI_add (rfl : v3_28.toInt = _) (rfl : ((-1) : Int32).toInt = -1) (by omega) (by omega)
                refine lv_goto (tgt := 28) hx hb dX12_undo_163 (by decide) ?_
                exact ih28 (w34) nu128_ _ _ _ (by first | exact ms_lt hm_28 (by omega) (by omega) | omega) (by omega)  ok hP  kq128_0 hF hS (lv_sub hl [0, 4, 5, 6] rfl)
              · have hF := (if_neg c_33).symm.trans hF
                have c_33 : v6_128.toInt < 7 := il_nle c_33
                refine lv_aload_n hx hb dX12_undo_135 rfl (lv_at hl 5 rfl) ?_
                refine va_get (D := (dC, dI)) (ci := 12) (v := .ref (ad 8)) (C := RX12) (T := TX12) (N := 46) hx hb hts inG12 hown hK hP 0 (gM_0 cs ad nu128_) rfl 10 (by decide) (hts _ (List.mem_cons_of_mem _ mw_5_51)) (fun _ h9 => h9) rfl dX12_undo_136 ?_
                refine lv_iload hx hb dX12_undo_139 (lv_at hl 0 rfl) ?_
                refine lv_aload_n hx hb dX12_undo_141 rfl (lv_at hl 5 rfl) ?_
                refine va_get (D := (dC, dI)) (ci := 12) (v := .ref (ad 14)) (C := RX12) (T := TX12) (N := 46) hx hb hts inG12 hown hK hP 0 (gM_0 cs ad nu128_) rfl 24 (by decide) (hts _ (List.mem_cons_of_mem _ mw_5_65)) (fun _ h9 => h9) rfl dX12_undo_142 ?_
                refine lv_iload hx hb dX12_undo_145 (lv_at hl 2 rfl) ?_
                refine lv_iconst (v := 5) hx hb dX12_undo_147 (by decide) ?_
                refine lv_iadd hx hb dX12_undo_148 ?_
                refine lv_topi (fun t35 et35 => ?_)
                have hF := mi_let hF et35
                have at35 : t35.toInt = t9.toInt + 5 := by rw [et35]; exact tI_add (rfl : t9.toInt = _) (rfl : (5 : Int32).toInt = 5) (by omega) (by omega)
                refine lv_iload hx hb dX12_undo_149 (lv_at hl 0 rfl) ?_
                refine lv_iadd hx hb dX12_undo_151 ?_
                refine lv_topi (fun t36 et36 => ?_)
                have hF := mi_let hF et36
                have at36 : t36.toInt = t35.toInt + v6_128.toInt := by rw [et36]; exact tI_add (rfl : t35.toInt = _) (rfl : v6_128.toInt = _) (by omega) (by omega)
                refine va_iald hx hb hK hP 14 0 (gM_14 cs ad nu128_) rfl (show vp_in t36 480 from vi_of (by omega) (by omega)) dX12_undo_152 ?_
                have hc37 : ((t36 : Int32).toNatClampNeg : Int) = t36.toInt := tC_of (by omega)
                refine lv_topi (fun y38 ey38 => ?_)
                have hF := mi_let hF ey38
                have by38 : y38.toInt = (nu128_ 14 t36.toNatClampNeg).toInt := congrArg Int32.toInt ey38
                refine va_iast hx hb hK hP (wR_D nu128_ hD) hS 8 0 (gM_8 cs ad nu128_) rfl (show vp_in v6_128 7 from vi_of (by omega) (by omega)) dX12_undo_153 (fun H locs hP _ hS => ?_)
                refine wr_gen (upd (nu128_ 8) v6_128.toNatClampNeg y38) hP (rfl) (fun nu39 hn39 hP => ?_)
                have hF := mi_let hF hn39.symm
                have ok := tM_8_s ok v6_128.toNatClampNeg hn39
                have ez40 : y38 = nu39 14 t36.toNatClampNeg := ey38.trans (congrFun (up_k hn39 (by decide)) t36.toNatClampNeg).symm
                have kp41 : (∀ k f : Nat, Nat.testBit 486 (gpM k f) = true → nu39 k f = mu k f) := kp_c 3 hn39 (fun _ => rfl) (by decide) kq128_0
                refine lv_iinc (v := (v6_128 + 1)) (lv' := [(6, .int (v6_128 + 1)), (5, .int y11), (4, .int t9), (3, .int v3_28), (2, .int t3), (0, .ref (ad 0)), (1, .int vn)]) hx hb dX12_undo_154 hl (k := 0) rfl rfl (by decide) rfl (fun ls hl => ?_)
                refine loc_gen (P := fun w9 => lv_has ls 7 [(6, .int w9), (5, .int y11), (4, .int t9), (3, .int v3_28), (2, .int t3), (0, .ref (ad 0)), (1, .int vn)]) (v6_128 + 1) hl (fun w42 hw42 hl => ?_)
                have hl : lv_has ls 7 [(6, .int w42), (5, .int y11), (4, .int t9), (3, .int v3_28), (2, .int t3), (0, .ref (ad 0)), (1, .int vn)] := hl
                have hF := mi_let hF hw42.symm
                have aw42 : w42.toInt = v6_128.toInt + 1 := by rw [← hw42]; first | exact va1 (Int.lt_of_le_of_lt h_v6_128.2 (by decide)) | exact va1 (by omega)
                refine lv_goto (tgt := 128) hx hb dX12_undo_157 (by decide) ?_
                exact ih128 (w42) nu39 _ _ _ (by first | exact ms_up hm_128 aw42 h_v6_128.2 | exact ms_lt hm_128 (by omega) (by omega) | omega) (by first | exact rg_up aw42 h_v6_128 (by omega) | omega)  ok hP  kp41 hF hS (lv_sub hl [0, 1, 2, 3, 4, 5, 6] rfl)
          exact loop128 10 (0) xi31 _ _ _ (by have h80 : (0 : Int32).toInt = 0 := rfl; omega) (by have h80 : (0 : Int32).toInt = 0 := rfl; exact ⟨by omega, by omega⟩)  ok hP  kp32 hF hS hl
    exact loop28 43 (t4) mu _ _ _ (by omega) (by omega)  ok hP  (fun _ _ _ => rfl) hF hS hl
  · have hF := (if_neg (fun h => absurd (hfe2.trans h) (by decide))).symm.trans hF
    have f2 : vn.toInt < (0 : Int) ∨ y1.toInt < vn.toInt := f2
    refine lv_if_ne (tgt := 14) hx hb dX12_undo_9 (by decide) (fun c => absurd (by decide) c) (fun _ => ?_)
    refine lv_iconst (v := (-1)) hx hb dX12_undo_12 (by decide) ?_
    exact W.iret (v := (-1)) hx hb hr (fun t ht hW => ⟨⟨(-1), mu, rfl, ⟨hF.trans hfz.symm, ok, trivial, (fun _ _ _ => rfl)⟩, by first | (subst ht; exact hP) | (rw [ht]; exact hP) | (show va_P (dC, dI) vwCl (wR 21 ad (EM cs ad) mu) t.heap; rw [ht]; exact hP)⟩, hS.F ht⟩) hS.2.2 dX12_undo_13
set_option maxHeartbeats 4000000 in
set_option maxRecDepth 100000 in
/-- qm_keep -/
theorem qm_keep (l : Launch) (dC : Nat → ClassId) (dI : Nat → Nat → Nat) (cs : Nat → ClassId) (ad : Nat → Nat) (mu : Nat → Nat → Int32) (ok : okR loM hiM mu) (H : Heap) (hP : va_P (dC, dI) vwCl (wR 21 ad (EM cs ad) mu) H) (hD0 : va_D (fun _ => True) (wR 21 ad (EM cs ad) mu)) (vk : Int32) : Met l yX12_keep (wU yX12_keep cX12_keep 4 (some .int)) ({ frames := 1, cells := 0, slots := 0, locals := 22 }) (va_Pc [.ref (ad 0), .int vk] (sz_P (dC, dI) vwCl (tyM cs) H)) (va_Qi (fun (z : Int32) (xi : Nat → Nat → Int32) => (z, xi) = F_qm_keep mu vk ∧ okR loM hiM xi ∧ (True) ∧ (∀ k f : Nat, Nat.testBit 478 (gpM k f) = true → xi k f = mu k f)) (fun xi t => va_P (dC, dI) vwCl (wR 21 ad (EM cs ad) xi) t.heap) (va_A (wR 21 ad (EM cs ad) mu) H.size)) 0 0 (va_A (wR 21 ad (EM cs ad) mu) H.size) := by
  refine Met.ofW (cc := cX12_keep) (maxL := 4) (ret := (some .int)) (by decide) rfl ?_
  intro p e s m args below meth c s₁ B hml hv
  obtain ⟨rfl, hh, hK, hz⟩ := hv
  have hx := B.exec
  have hb := B.bytes
  have hr := B.returns
  have hts := atoms_spec (ws := (wU yX12_keep cX12_keep 4 (some .int))) B.pre
  have hown : s.vm.findClass RX12 = some m.cls := findClass_of_methodNamed B.named
  have hlocks := B.notSynchronized
  subst hh
  have hD := hD0.self (sz := s.heap.size)
  have hA : ∀ q : Nat, s.heap.size ≤ q → (va_A (wR 21 ad (EM cs ad) mu) s.heap.size) q := fun q h => Or.inr h
  have hS : va_S (va_A (wR 21 ad (EM cs ad) mu) s.heap.size) s.heap s.heap [] := va_S.rf
  have hl := lv_entry ([.ref (ad 0), .int vk]) (n := 4) (Nat.le_of_ble_eq_true rfl)
  rw [lg_entry_eq]
  generalize (lg_sl ([.ref (ad 0), .int vk]) ++ List.replicate (4 - (lg_sl ([.ref (ad 0), .int vk])).length) Slot.unset).toArray = ls at hl ⊢
  have hl : lv_has ls 4 [(0, .ref (ad 0)), (1, .int vk)] := hl
  obtain ⟨fz, hfz⟩ : ∃ z, F_qm_keep mu vk = z := ⟨_, rfl⟩
  have hF := hfz
  unfold F_qm_keep at hF
  refine lv_iload_n hx hb dX12_keep_0 rfl (lv_at hl 1 rfl) ?_
  refine lv_iconst (v := 0) hx hb dX12_keep_1 (by decide) ?_
  refine lv_iconst (v := 2) hx hb dX12_keep_2 (by decide) ?_
  refine cr_i (va_runS (As := [.int vk, .int 0, .int 2]) (rest := []) ⟨hx, hb, hml, hown, hts⟩ (sm_in l dC dI (tyM cs) s.heap vk 0 2) (va_cwS 3 hts (wU_S mw_5_189 mw_5_187 mw_5_188 mw_1_13) rfl rfl rfl (by decide +kernel) ⟨Nat.le_of_ble_eq_true rfl, Nat.le_of_ble_eq_true rfl⟩) ⟨sz_c, sz_m hK hz⟩ rfl rfl hl.1 rfl (lv_room (Nat.le_of_ble_eq_true rfl)) dX12_keep_3 ⟨Nat.zero_le _, Nat.zero_le _⟩) hS (fun r1 hw1 locs hS => ?_)
  obtain ⟨hfe1, hw1⟩ := hw1
  rcases hw1 with ⟨rfl, f1⟩ | ⟨rfl, f1⟩
  · have hF := (if_pos hfe1.symm).symm.trans hF
    have f1 : (0 : Int) ≤ vk.toInt ∧ vk.toInt ≤ (2 : Int) := f1
    refine lv_if_ne (tgt := 11) hx hb dX12_keep_6 (by decide) (fun _ => ?_) (fun c => absurd c (by decide))
    refine lv_aload_n hx hb dX12_keep_11 rfl (lv_at hl 0 rfl) ?_
    refine va_get (D := (dC, dI)) (ci := 12) (v := .int (mu 0 8)) (C := RX12) (T := TX12) (N := 46) hx hb hts inG12 hown hK hP 0 (gM_0 cs ad mu) rfl 8 (by decide) (hts _ (List.mem_cons_of_mem _ mw_5_49)) (fun _ h9 => h9) rfl dX12_keep_12 ?_
    refine lv_topi (fun y2 ey2 => ?_)
    have hF := mi_let hF ey2
    have by2 : y2.toInt = (mu 0 8).toInt := congrArg Int32.toInt ey2
    have gy2 : 0 ≤ y2.toInt ∧ y2.toInt ≤ 7 := by rw [ey2]; exact rM_0_8 ok
    refine lv_if_ne (tgt := 21) hx hb dX12_keep_15 (by decide) (fun c_3 => ?_) (fun c_3 => ?_)
    · have hF := (if_neg c_3).symm.trans hF
      have c_3 : ¬ y2.toInt = 0 := il_ne c_3
      refine lv_bipush (v := 64) hx hb dX12_keep_21 (by decide) ?_
      refine lv_iload_n hx hb dX12_keep_23 rfl (lv_at hl 1 rfl) ?_
      refine lv_imul hx hb dX12_keep_24 ?_
      refine lv_topi (fun t4 et4 => ?_)
      have hF := mi_let hF et4
      have at4 : t4.toInt = 64 * vk.toInt := by rw [et4]; exact tI_mul (rfl : (64 : Int32).toInt = 64) (rfl : vk.toInt = _) (by omega) (by omega)
      refine lv_istore_n (lv' := [(2, .int t4), (0, .ref (ad 0)), (1, .int vk)]) hx hb dX12_keep_25 rfl hl (by decide) rfl (fun ls hl => ?_)
      refine lv_aload_n hx hb dX12_keep_26 rfl (lv_at hl 1 rfl) ?_
      refine va_get (D := (dC, dI)) (ci := 12) (v := .ref (ad 15)) (C := RX12) (T := TX12) (N := 46) hx hb hts inG12 hown hK hP 0 (gM_0 cs ad mu) rfl 25 (by decide) (hts _ (List.mem_cons_of_mem _ mw_5_66)) (fun _ h9 => h9) rfl dX12_keep_27 ?_
      refine lv_iload_n hx hb dX12_keep_30 rfl (lv_at hl 0 rfl) ?_
      refine lv_aload_n hx hb dX12_keep_31 rfl (lv_at hl 1 rfl) ?_
      refine va_get (D := (dC, dI)) (ci := 12) (v := .int (mu 0 14)) (C := RX12) (T := TX12) (N := 46) hx hb hts inG12 hown hK hP 0 (gM_0 cs ad mu) rfl 14 (by decide) (hts _ (List.mem_cons_of_mem _ mw_5_55)) (fun _ h9 => h9) rfl dX12_keep_32 ?_
      refine lv_topi (fun y5 ey5 => ?_)
      have hF := mi_let hF ey5
      have by5 : y5.toInt = (mu 0 14).toInt := congrArg Int32.toInt ey5
      refine va_iast hx hb hK hP (wR_D mu hD) hS 15 0 (gM_15 cs ad mu) rfl (show vp_in t4 192 from vi_of (by omega) (by omega)) dX12_keep_35 (fun H locs hP _ hS => ?_)
      have hc6 : ((t4 : Int32).toNatClampNeg : Int) = t4.toInt := tC_of (by omega)
      refine wr_gen (upd (mu 15) t4.toNatClampNeg y5) hP (rfl) (fun nu7 hn7 hP => ?_)
      have hF := mi_let hF hn7.symm
      have ok := tM_15_s ok t4.toNatClampNeg hn7 (by refine ⟨fun c9 => ?_, fun c9 => ?_, fun c9 => ?_, fun c9 => ?_, fun c9 => ?_⟩ <;> omega)
      have ez8 : y2 = nu7 0 8 := ey2.trans (congrFun (up_k hn7 (by decide)) 8).symm
      have ez9 : y5 = nu7 0 14 := ey5.trans (congrFun (up_k hn7 (by decide)) 14).symm
      have kp10 : (∀ k f : Nat, Nat.testBit 478 (gpM k f) = true → nu7 k f = mu k f) := kp_c 5 hn7 (fun _ => rfl) (by decide) (fun _ _ _ => rfl)
      refine lv_aload_n hx hb dX12_keep_36 rfl (lv_at hl 1 rfl) ?_
      refine va_get (D := (dC, dI)) (ci := 12) (v := .ref (ad 15)) (C := RX12) (T := TX12) (N := 46) hx hb hts inG12 hown hK hP 0 (gM_0 cs ad nu7) rfl 25 (by decide) (hts _ (List.mem_cons_of_mem _ mw_5_66)) (fun _ h9 => h9) rfl dX12_keep_37 ?_
      refine lv_iload_n hx hb dX12_keep_40 rfl (lv_at hl 0 rfl) ?_
      refine lv_iconst (v := 1) hx hb dX12_keep_41 (by decide) ?_
      refine lv_iadd hx hb dX12_keep_42 ?_
      refine lv_topi (fun t11 et11 => ?_)
      have hF := mi_let hF et11
      have at11 : t11.toInt = t4.toInt + 1 := by rw [et11]; exact va1 (by omega)
      refine lv_aload_n hx hb dX12_keep_43 rfl (lv_at hl 1 rfl) ?_
      refine va_get (D := (dC, dI)) (ci := 12) (v := .int (nu7 0 13)) (C := RX12) (T := TX12) (N := 46) hx hb hts inG12 hown hK hP 0 (gM_0 cs ad nu7) rfl 13 (by decide) (hts _ (List.mem_cons_of_mem _ mw_5_54)) (fun _ h9 => h9) rfl dX12_keep_44 ?_
      refine lv_topi (fun y12 ey12 => ?_)
      have hF := mi_let hF ey12
      have by12 : y12.toInt = (nu7 0 13).toInt := congrArg Int32.toInt ey12
      refine va_iast hx hb hK hP (wR_D nu7 hD) hS 15 0 (gM_15 cs ad nu7) rfl (show vp_in t11 192 from vi_of (by omega) (by omega)) dX12_keep_47 (fun H locs hP _ hS => ?_)
      have hc13 : ((t11 : Int32).toNatClampNeg : Int) = t11.toInt := tC_of (by omega)
      refine wr_gen (upd (nu7 15) t11.toNatClampNeg y12) hP (rfl) (fun nu14 hn14 hP => ?_)
      have hF := mi_let hF hn14.symm
      have ok := tM_15_s ok t11.toNatClampNeg hn14 (by refine ⟨fun c9 => ?_, fun c9 => ?_, fun c9 => ?_, fun c9 => ?_, fun c9 => ?_⟩ <;> omega)
      have ez15 : y2 = nu14 0 8 := ez8.trans (congrFun (up_k hn14 (by decide)) 8).symm
      have ez16 : y5 = nu14 0 14 := ez9.trans (congrFun (up_k hn14 (by decide)) 14).symm
      have ez17 : y12 = nu14 0 13 := ey12.trans (congrFun (up_k hn14 (by decide)) 13).symm
      have kp18 : (∀ k f : Nat, Nat.testBit 478 (gpM k f) = true → nu14 k f = mu k f) := kp_c 5 hn14 (fun _ => rfl) (by decide) kp10
      refine lv_aload_n hx hb dX12_keep_48 rfl (lv_at hl 1 rfl) ?_
      refine va_get (D := (dC, dI)) (ci := 12) (v := .ref (ad 15)) (C := RX12) (T := TX12) (N := 46) hx hb hts inG12 hown hK hP 0 (gM_0 cs ad nu14) rfl 25 (by decide) (hts _ (List.mem_cons_of_mem _ mw_5_66)) (fun _ h9 => h9) rfl dX12_keep_49 ?_
      refine lv_iload_n hx hb dX12_keep_52 rfl (lv_at hl 0 rfl) ?_
      refine lv_iconst (v := 2) hx hb dX12_keep_53 (by decide) ?_
      refine lv_iadd hx hb dX12_keep_54 ?_
      refine lv_topi (fun t19 et19 => ?_)
      have hF := mi_let hF et19
      have at19 : t19.toInt = t4.toInt + 2 := by rw [et19]; exact tI_add (rfl : t4.toInt = _) (rfl : (2 : Int32).toInt = 2) (by omega) (by omega)
      refine lv_aload_n hx hb dX12_keep_55 rfl (lv_at hl 1 rfl) ?_
      refine va_get (D := (dC, dI)) (ci := 12) (v := .int (nu14 0 15)) (C := RX12) (T := TX12) (N := 46) hx hb hts inG12 hown hK hP 0 (gM_0 cs ad nu14) rfl 15 (by decide) (hts _ (List.mem_cons_of_mem _ mw_5_56)) (fun _ h9 => h9) rfl dX12_keep_56 ?_
      refine lv_topi (fun y20 ey20 => ?_)
      have hF := mi_let hF ey20
      have by20 : y20.toInt = (nu14 0 15).toInt := congrArg Int32.toInt ey20
      have gy20 : 0 ≤ y20.toInt ∧ y20.toInt ≤ 4 := by rw [ey20]; exact rM_0_15 ok
      refine va_iast hx hb hK hP (wR_D nu14 hD) hS 15 0 (gM_15 cs ad nu14) rfl (show vp_in t19 192 from vi_of (by omega) (by omega)) dX12_keep_59 (fun H locs hP _ hS => ?_)
      have hc21 : ((t19 : Int32).toNatClampNeg : Int) = t19.toInt := tC_of (by omega)
      refine wr_gen (upd (nu14 15) t19.toNatClampNeg y20) hP (rfl) (fun nu22 hn22 hP => ?_)
      have hF := mi_let hF hn22.symm
      have ok := tM_15_s ok t19.toNatClampNeg hn22 (by refine ⟨fun c9 => ?_, fun c9 => ?_, fun c9 => ?_, fun c9 => ?_, fun c9 => ?_⟩ <;> omega)
      have ez23 : y2 = nu22 0 8 := ez15.trans (congrFun (up_k hn22 (by decide)) 8).symm
      have ez24 : y5 = nu22 0 14 := ez16.trans (congrFun (up_k hn22 (by decide)) 14).symm
      have ez25 : y12 = nu22 0 13 := ez17.trans (congrFun (up_k hn22 (by decide)) 13).symm
      have ez26 : y20 = nu22 0 15 := ey20.trans (congrFun (up_k hn22 (by decide)) 15).symm
      have kp27 : (∀ k f : Nat, Nat.testBit 478 (gpM k f) = true → nu22 k f = mu k f) := kp_c 5 hn22 (fun _ => rfl) (by decide) kp18
      refine lv_iconst (v := 0) hx hb dX12_keep_60 (by decide) ?_
      refine lv_istore_n (lv' := [(3, .int 0), (2, .int t4), (0, .ref (ad 0)), (1, .int vk)]) hx hb dX12_keep_61 rfl hl (by decide) rfl (fun ls hl => ?_)
      have loop62 : ∀ (n62 : Nat) (v3_62 : Int32) (nu62_ : Nat → Nat → Int32) (H : Heap) (locs : List Loc) (ls : Array Slot), (7 + 1 - v3_62.toInt).toNat < n62 → (0 ≤ v3_62.toInt ∧ v3_62.toInt ≤ 7) → okR loM hiM nu62_ → va_P (dC, dI) vwCl (wR 21 ad (EM cs ad) nu62_) H → (∀ k f : Nat, Nat.testBit 478 (gpM k f) = true → nu62_ k f = mu k f) → L_qm_keep_62_0 t4 n62 v3_62 nu62_ = fz → va_S (va_A (wR 21 ad (EM cs ad) mu) s.heap.size) s.heap H locs → lv_has ls 4 [(3, .int v3_62), (2, .int t4), (0, .ref (ad 0)), (1, .int vk)] → W p l e (headSpec (wU yX12_keep cX12_keep 4 (some .int)) ({ frames := 1, cells := 0, slots := 0, locals := 22 })).room s m ([.ref (ad 0), .int vk] : List Value).toArray below meth c H locs 0 0 (MQ below (va_Qi (fun (z : Int32) (xi : Nat → Nat → Int32) => (z, xi) = F_qm_keep mu vk ∧ okR loM hiM xi ∧ (True) ∧ (∀ k f : Nat, Nat.testBit 478 (gpM k f) = true → xi k f = mu k f)) (fun xi t => va_P (dC, dI) vwCl (wR 21 ad (EM cs ad) xi) t.heap) (va_A (wR 21 ad (EM cs ad) mu) s.heap.size)) ([.ref (ad 0), .int vk] : List Value).toArray s 0 0 (va_A (wR 21 ad (EM cs ad) mu) s.heap.size)) (F0 m 62 ls []) := by
        intro n62
        induction n62 with
        | zero => intro v3_62 nu62_ H locs ls hm; exact absurd hm (Nat.not_lt_zero _)
        | succ n62 ih62 =>
          intro v3_62 nu62_ H locs ls hm_62 h_v3_62 ok hP kq62_0 hF hS hl
          rw [L_qm_keep_62_0] at hF
          refine lv_iload_n hx hb dX12_keep_62 rfl (lv_at hl 0 rfl) ?_
          refine lv_bipush (v := 7) hx hb dX12_keep_63 (by decide) ?_
          refine lv_icmp_ge (tgt := 90) hx hb dX12_keep_65 (by decide) (fun c_28 => ?_) (fun c_28 => ?_)
          · have hF := (if_pos c_28).symm.trans hF
            have c_28 : 7 ≤ v3_62.toInt := il_le c_28
            refine lv_iconst (v := 0) hx hb dX12_keep_90 (by decide) ?_
            refine lv_istore_n (lv' := [(3, .int 0), (2, .int t4), (0, .ref (ad 0)), (1, .int vk)]) hx hb dX12_keep_91 rfl hl (by decide) rfl (fun ls hl => ?_)
            have loop92 : ∀ (n92 : Nat) (v3_92 : Int32) (nu92_ : Nat → Nat → Int32) (H : Heap) (locs : List Loc) (ls : Array Slot), (40 + 1 - v3_92.toInt).toNat < n92 → (0 ≤ v3_92.toInt ∧ v3_92.toInt ≤ 40) → okR loM hiM nu92_ → va_P (dC, dI) vwCl (wR 21 ad (EM cs ad) nu92_) H → (∀ k f : Nat, Nat.testBit 478 (gpM k f) = true → nu92_ k f = mu k f) → L_qm_keep_92_1 t4 n92 v3_92 nu92_ = fz → va_S (va_A (wR 21 ad (EM cs ad) mu) s.heap.size) s.heap H locs → lv_has ls 4 [(3, .int v3_92), (2, .int t4), (0, .ref (ad 0)), (1, .int vk)] → W p l e (headSpec (wU yX12_keep cX12_keep 4 (some .int)) ({ frames := 1, cells := 0, slots := 0, locals := 22 })).room s m ([.ref (ad 0), .int vk] : List Value).toArray below meth c H locs 0 0 (MQ below (va_Qi (fun (z : Int32) (xi : Nat → Nat → Int32) => (z, xi) = F_qm_keep mu vk ∧ okR loM hiM xi ∧ (True) ∧ (∀ k f : Nat, Nat.testBit 478 (gpM k f) = true → xi k f = mu k f)) (fun xi t => va_P (dC, dI) vwCl (wR 21 ad (EM cs ad) xi) t.heap) (va_A (wR 21 ad (EM cs ad) mu) s.heap.size)) ([.ref (ad 0), .int vk] : List Value).toArray s 0 0 (va_A (wR 21 ad (EM cs ad) mu) s.heap.size)) (F0 m 92 ls []) := by
              intro n92
              induction n92 with
              | zero => intro v3_92 nu92_ H locs ls hm; exact absurd hm (Nat.not_lt_zero _)
              | succ n92 ih92 =>
                intro v3_92 nu92_ H locs ls hm_92 h_v3_92 ok hP kq92_0 hF hS hl
                rw [L_qm_keep_92_1] at hF
                refine lv_iload_n hx hb dX12_keep_92 rfl (lv_at hl 0 rfl) ?_
                refine lv_bipush (v := 40) hx hb dX12_keep_93 (by decide) ?_
                refine lv_icmp_ge (tgt := 121) hx hb dX12_keep_95 (by decide) (fun c_29 => ?_) (fun c_29 => ?_)
                · have hF := (if_pos c_29).symm.trans hF
                  have c_29 : 40 ≤ v3_92.toInt := il_le c_29
                  refine lv_aload_n hx hb dX12_keep_121 rfl (lv_at hl 2 rfl) ?_
                  refine va_get (D := (dC, dI)) (ci := 12) (v := .int (nu92_ 0 14)) (C := RX12) (T := TX12) (N := 46) hx hb hts inG12 hown hK hP 0 (gM_0 cs ad nu92_) rfl 14 (by decide) (hts _ (List.mem_cons_of_mem _ mw_5_55)) (fun _ h9 => h9) rfl dX12_keep_122 ?_
                  refine lv_topi (fun y30 ey30 => ?_)
                  have hF := mi_let hF ey30
                  have by30 : y30.toInt = (nu92_ 0 14).toInt := congrArg Int32.toInt ey30
                  exact W.iret (v := y30) hx hb hr (fun t ht hW => ⟨⟨y30, nu92_, rfl, ⟨hF.trans hfz.symm, ok, trivial, kq92_0⟩, by first | (subst ht; exact hP) | (rw [ht]; exact hP) | (show va_P (dC, dI) vwCl (wR 21 ad (EM cs ad) nu92_) t.heap; rw [ht]; exact hP)⟩, hS.F ht⟩) hS.2.2 dX12_keep_125
                · have hF := (if_neg c_29).symm.trans hF
                  have c_29 : v3_92.toInt < 40 := il_nle c_29
                  refine lv_aload_n hx hb dX12_keep_98 rfl (lv_at hl 2 rfl) ?_
                  refine va_get (D := (dC, dI)) (ci := 12) (v := .ref (ad 15)) (C := RX12) (T := TX12) (N := 46) hx hb hts inG12 hown hK hP 0 (gM_0 cs ad nu92_) rfl 25 (by decide) (hts _ (List.mem_cons_of_mem _ mw_5_66)) (fun _ h9 => h9) rfl dX12_keep_99 ?_
                  refine lv_iload_n hx hb dX12_keep_102 rfl (lv_at hl 1 rfl) ?_
                  refine lv_bipush (v := 10) hx hb dX12_keep_103 (by decide) ?_
                  refine lv_iadd hx hb dX12_keep_105 ?_
                  refine lv_topi (fun t31 et31 => ?_)
                  have hF := mi_let hF et31
                  have at31 : t31.toInt = t4.toInt + 10 := by rw [et31]; exact tI_add (rfl : t4.toInt = _) (rfl : (10 : Int32).toInt = 10) (by omega) (by omega)
                  refine lv_iload_n hx hb dX12_keep_106 rfl (lv_at hl 0 rfl) ?_
                  refine lv_iadd hx hb dX12_keep_107 ?_
                  refine lv_topi (fun t32 et32 => ?_)
                  have hF := mi_let hF et32
                  have at32 : t32.toInt = t31.toInt + v3_92.toInt := by rw [et32]; exact tI_add (rfl : t31.toInt = _) (rfl : v3_92.toInt = _) (by omega) (by omega)
                  refine lv_aload_n hx hb dX12_keep_108 rfl (lv_at hl 2 rfl) ?_
                  refine va_get (D := (dC, dI)) (ci := 12) (v := .ref (ad 10)) (C := RX12) (T := TX12) (N := 46) hx hb hts inG12 hown hK hP 0 (gM_0 cs ad nu92_) rfl 16 (by decide) (hts _ (List.mem_cons_of_mem _ mw_5_57)) (fun _ h9 => h9) rfl dX12_keep_109 ?_
                  refine lv_iload_n hx hb dX12_keep_112 rfl (lv_at hl 0 rfl) ?_
                  refine va_iald hx hb hK hP 10 0 (gM_10 cs ad nu92_) rfl (show vp_in v3_92 40 from vi_of (by omega) (by omega)) dX12_keep_113 ?_
                  have hc33 : ((v3_92 : Int32).toNatClampNeg : Int) = v3_92.toInt := tC_of (by omega)
                  refine lv_topi (fun y34 ey34 => ?_)
                  have hF := mi_let hF ey34
                  have by34 : y34.toInt = (nu92_ 10 v3_92.toNatClampNeg).toInt := congrArg Int32.toInt ey34
                  refine va_iast hx hb hK hP (wR_D nu92_ hD) hS 15 0 (gM_15 cs ad nu92_) rfl (show vp_in t32 192 from vi_of (by omega) (by omega)) dX12_keep_114 (fun H locs hP _ hS => ?_)
                  have hc35 : ((t32 : Int32).toNatClampNeg : Int) = t32.toInt := tC_of (by omega)
                  refine wr_gen (upd (nu92_ 15) t32.toNatClampNeg y34) hP (rfl) (fun nu36 hn36 hP => ?_)
                  have hF := mi_let hF hn36.symm
                  have ok := okR_one ok ey34 (by have u1 := tC_of (v := t32) (by omega); have u2 := tC_of (v := vk) (by omega); have u3 := tC_of (v := v3_92) (by omega); rw [show t32.toNatClampNeg = 64 * vk.toNatClampNeg + 10 + v3_92.toNatClampNeg by omega]; exact kp_in _ (by omega) _ (by omega)) hn36
                  have ez37 : y34 = nu36 10 v3_92.toNatClampNeg := ey34.trans (congrFun (up_k hn36 (by decide)) v3_92.toNatClampNeg).symm
                  have kp38 : (∀ k f : Nat, Nat.testBit 478 (gpM k f) = true → nu36 k f = mu k f) := kp_c 5 hn36 (fun _ => rfl) (by decide) kq92_0
                  refine lv_iinc (v := (v3_92 + 1)) (lv' := [(3, .int (v3_92 + 1)), (2, .int t4), (0, .ref (ad 0)), (1, .int vk)]) hx hb dX12_keep_115 hl (k := 0) rfl rfl (by decide) rfl (fun ls hl => ?_)
                  refine loc_gen (P := fun w9 => lv_has ls 4 [(3, .int w9), (2, .int t4), (0, .ref (ad 0)), (1, .int vk)]) (v3_92 + 1) hl (fun w39 hw39 hl => ?_)
                  have hl : lv_has ls 4 [(3, .int w39), (2, .int t4), (0, .ref (ad 0)), (1, .int vk)] := hl
                  have hF := mi_let hF hw39.symm
                  have aw39 : w39.toInt = v3_92.toInt + 1 := by rw [← hw39]; first | exact va1 (Int.lt_of_le_of_lt h_v3_92.2 (by decide)) | exact va1 (by omega)
                  refine lv_goto (tgt := 92) hx hb dX12_keep_118 (by decide) ?_
                  exact ih92 (w39) nu36 _ _ _ (by first | exact ms_up hm_92 aw39 h_v3_92.2 | exact ms_lt hm_92 (by omega) (by omega) | omega) (by first | exact rg_up aw39 h_v3_92 (by omega) | omega)  ok hP  kp38 hF hS (lv_sub hl [0, 1, 2, 3] rfl)
            exact loop92 43 (0) nu62_ _ _ _ (by have h80 : (0 : Int32).toInt = 0 := rfl; omega) (by have h80 : (0 : Int32).toInt = 0 := rfl; exact ⟨by omega, by omega⟩)  ok hP  kq62_0 hF hS hl
          · have hF := (if_neg c_28).symm.trans hF
            have c_28 : v3_62.toInt < 7 := il_nle c_28
            refine lv_aload_n hx hb dX12_keep_68 rfl (lv_at hl 2 rfl) ?_
            refine va_get (D := (dC, dI)) (ci := 12) (v := .ref (ad 15)) (C := RX12) (T := TX12) (N := 46) hx hb hts inG12 hown hK hP 0 (gM_0 cs ad nu62_) rfl 25 (by decide) (hts _ (List.mem_cons_of_mem _ mw_5_66)) (fun _ h9 => h9) rfl dX12_keep_69 ?_
            refine lv_iload_n hx hb dX12_keep_72 rfl (lv_at hl 1 rfl) ?_
            refine lv_iconst (v := 3) hx hb dX12_keep_73 (by decide) ?_
            refine lv_iadd hx hb dX12_keep_74 ?_
            refine lv_topi (fun t40 et40 => ?_)
            have hF := mi_let hF et40
            have at40 : t40.toInt = t4.toInt + 3 := by rw [et40]; exact tI_add (rfl : t4.toInt = _) (rfl : (3 : Int32).toInt = 3) (by omega) (by omega)
            refine lv_iload_n hx hb dX12_keep_75 rfl (lv_at hl 0 rfl) ?_
            refine lv_iadd hx hb dX12_keep_76 ?_
            refine lv_topi (fun t41 et41 => ?_)
            have hF := mi_let hF et41
            have at41 : t41.toInt = t40.toInt + v3_62.toInt := by rw [et41]; exact tI_add (rfl : t40.toInt = _) (rfl : v3_62.toInt = _) (by omega) (by omega)
            refine lv_aload_n hx hb dX12_keep_77 rfl (lv_at hl 2 rfl) ?_
            refine va_get (D := (dC, dI)) (ci := 12) (v := .ref (ad 8)) (C := RX12) (T := TX12) (N := 46) hx hb hts inG12 hown hK hP 0 (gM_0 cs ad nu62_) rfl 10 (by decide) (hts _ (List.mem_cons_of_mem _ mw_5_51)) (fun _ h9 => h9) rfl dX12_keep_78 ?_
            refine lv_iload_n hx hb dX12_keep_81 rfl (lv_at hl 0 rfl) ?_
            refine va_iald hx hb hK hP 8 0 (gM_8 cs ad nu62_) rfl (show vp_in v3_62 7 from vi_of (by omega) (by omega)) dX12_keep_82 ?_
            refine lv_topi (fun y42 ey42 => ?_)
            have hF := mi_let hF ey42
            have by42 : y42.toInt = (nu62_ 8 v3_62.toNatClampNeg).toInt := congrArg Int32.toInt ey42
            refine va_iast hx hb hK hP (wR_D nu62_ hD) hS 15 0 (gM_15 cs ad nu62_) rfl (show vp_in t41 192 from vi_of (by omega) (by omega)) dX12_keep_83 (fun H locs hP _ hS => ?_)
            have hc43 : ((t41 : Int32).toNatClampNeg : Int) = t41.toInt := tC_of (by omega)
            refine wr_gen (upd (nu62_ 15) t41.toNatClampNeg y42) hP (rfl) (fun nu44 hn44 hP => ?_)
            have hF := mi_let hF hn44.symm
            have ok := tM_15_s ok t41.toNatClampNeg hn44 (by refine ⟨fun c9 => ?_, fun c9 => ?_, fun c9 => ?_, fun c9 => ?_, fun c9 => ?_⟩ <;> omega)
            have ez45 : y42 = nu44 8 v3_62.toNatClampNeg := ey42.trans (congrFun (up_k hn44 (by decide)) v3_62.toNatClampNeg).symm
            have kp46 : (∀ k f : Nat, Nat.testBit 478 (gpM k f) = true → nu44 k f = mu k f) := kp_c 5 hn44 (fun _ => rfl) (by decide) kq62_0
            refine lv_iinc (v := (v3_62 + 1)) (lv' := [(3, .int (v3_62 + 1)), (2, .int t4), (0, .ref (ad 0)), (1, .int vk)]) hx hb dX12_keep_84 hl (k := 0) rfl rfl (by decide) rfl (fun ls hl => ?_)
            refine loc_gen (P := fun w9 => lv_has ls 4 [(3, .int w9), (2, .int t4), (0, .ref (ad 0)), (1, .int vk)]) (v3_62 + 1) hl (fun w47 hw47 hl => ?_)
            have hl : lv_has ls 4 [(3, .int w47), (2, .int t4), (0, .ref (ad 0)), (1, .int vk)] := hl
            have hF := mi_let hF hw47.symm
            have aw47 : w47.toInt = v3_62.toInt + 1 := by rw [← hw47]; first | exact va1 (Int.lt_of_le_of_lt h_v3_62.2 (by decide)) | exact va1 (by omega)
            refine lv_goto (tgt := 62) hx hb dX12_keep_87 (by decide) ?_
            exact ih62 (w47) nu44 _ _ _ (by first | exact ms_up hm_62 aw47 h_v3_62.2 | exact ms_lt hm_62 (by omega) (by omega) | omega) (by first | exact rg_up aw47 h_v3_62 (by omega) | omega)  ok hP  kp46 hF hS (lv_sub hl [0, 1, 2, 3] rfl)
      exact loop62 10 (0) nu22 _ _ _ (by have h80 : (0 : Int32).toInt = 0 := rfl; omega) (by have h80 : (0 : Int32).toInt = 0 := rfl; exact ⟨by omega, by omega⟩)  ok hP  kp27 hF hS hl
    · have hF := (if_pos c_3).symm.trans hF
      have c_3 : y2.toInt = 0 := il_eq c_3
      refine lv_bipush (v := (-4)) hx hb dX12_keep_18 (by decide) ?_
      exact W.iret (v := (-4)) hx hb hr (fun t ht hW => ⟨⟨(-4), mu, rfl, ⟨hF.trans hfz.symm, ok, trivial, (fun _ _ _ => rfl)⟩, by first | (subst ht; exact hP) | (rw [ht]; exact hP) | (show va_P (dC, dI) vwCl (wR 21 ad (EM cs ad) mu) t.heap; rw [ht]; exact hP)⟩, hS.F ht⟩) hS.2.2 dX12_keep_20
  · have hF := (if_neg (fun h => absurd (hfe1.trans h) (by decide))).symm.trans hF
    have f1 : vk.toInt < (0 : Int) ∨ (2 : Int) < vk.toInt := f1
    refine lv_if_ne (tgt := 11) hx hb dX12_keep_6 (by decide) (fun c => absurd (by decide) c) (fun _ => ?_)
    refine lv_iconst (v := (-1)) hx hb dX12_keep_9 (by decide) ?_
    exact W.iret (v := (-1)) hx hb hr (fun t ht hW => ⟨⟨(-1), mu, rfl, ⟨hF.trans hfz.symm, ok, trivial, (fun _ _ _ => rfl)⟩, by first | (subst ht; exact hP) | (rw [ht]; exact hP) | (show va_P (dC, dI) vwCl (wR 21 ad (EM cs ad) mu) t.heap; rw [ht]; exact hP)⟩, hS.F ht⟩) hS.2.2 dX12_keep_10
set_option maxHeartbeats 4000000 in
set_option maxRecDepth 100000 in
/-- qm_on -/
theorem qm_on (l : Launch) (dC : Nat → ClassId) (dI : Nat → Nat → Nat) (cs : Nat → ClassId) (ad : Nat → Nat) (mu : Nat → Nat → Int32) (ok : okR loM hiM mu) (H : Heap) (hP : va_P (dC, dI) vwCl (wR 21 ad (EM cs ad) mu) H) (hD0 : va_D (fun _ => True) (wR 21 ad (EM cs ad) mu)) (vk : Int32) : Met l yX12_on (wU yX12_on cX12_on 4 (some .int)) ({ frames := 1, cells := 0, slots := 0, locals := 22 }) (va_Pc [.ref (ad 0), .int vk] (sz_P (dC, dI) vwCl (tyM cs) H)) (va_Qi (fun (z : Int32) (xi : Nat → Nat → Int32) => (z, xi) = F_qm_on mu vk ∧ okR loM hiM xi ∧ (True) ∧ (∀ k f : Nat, Nat.testBit 38 (gpM k f) = true → xi k f = mu k f)) (fun xi t => va_P (dC, dI) vwCl (wR 21 ad (EM cs ad) xi) t.heap) (va_A (wR 21 ad (EM cs ad) mu) H.size)) 0 0 (va_A (wR 21 ad (EM cs ad) mu) H.size) := by
  refine Met.ofW (cc := cX12_on) (maxL := 4) (ret := (some .int)) (by decide) rfl ?_
  intro p e s m args below meth c s₁ B hml hv
  obtain ⟨rfl, hh, hK, hz⟩ := hv
  have hx := B.exec
  have hb := B.bytes
  have hr := B.returns
  have hts := atoms_spec (ws := (wU yX12_on cX12_on 4 (some .int))) B.pre
  have hown : s.vm.findClass RX12 = some m.cls := findClass_of_methodNamed B.named
  have hlocks := B.notSynchronized
  subst hh
  have hD := hD0.self (sz := s.heap.size)
  have hA : ∀ q : Nat, s.heap.size ≤ q → (va_A (wR 21 ad (EM cs ad) mu) s.heap.size) q := fun q h => Or.inr h
  have hS : va_S (va_A (wR 21 ad (EM cs ad) mu) s.heap.size) s.heap s.heap [] := va_S.rf
  have hl := lv_entry ([.ref (ad 0), .int vk]) (n := 4) (Nat.le_of_ble_eq_true rfl)
  rw [lg_entry_eq]
  generalize (lg_sl ([.ref (ad 0), .int vk]) ++ List.replicate (4 - (lg_sl ([.ref (ad 0), .int vk])).length) Slot.unset).toArray = ls at hl ⊢
  have hl : lv_has ls 4 [(0, .ref (ad 0)), (1, .int vk)] := hl
  obtain ⟨fz, hfz⟩ : ∃ z, F_qm_on mu vk = z := ⟨_, rfl⟩
  have hF := hfz
  unfold F_qm_on at hF
  refine lv_iload_n hx hb dX12_on_0 rfl (lv_at hl 1 rfl) ?_
  refine lv_iconst (v := 0) hx hb dX12_on_1 (by decide) ?_
  refine lv_iconst (v := 2) hx hb dX12_on_2 (by decide) ?_
  refine cr_i (va_runS (As := [.int vk, .int 0, .int 2]) (rest := []) ⟨hx, hb, hml, hown, hts⟩ (sm_in l dC dI (tyM cs) s.heap vk 0 2) (va_cwS 3 hts (wU_S mw_5_189 mw_5_187 mw_5_188 mw_1_13) rfl rfl rfl (by decide +kernel) ⟨Nat.le_of_ble_eq_true rfl, Nat.le_of_ble_eq_true rfl⟩) ⟨sz_c, sz_m hK hz⟩ rfl rfl hl.1 rfl (lv_room (Nat.le_of_ble_eq_true rfl)) dX12_on_3 ⟨Nat.zero_le _, Nat.zero_le _⟩) hS (fun r1 hw1 locs hS => ?_)
  obtain ⟨hfe1, hw1⟩ := hw1
  rcases hw1 with ⟨rfl, f1⟩ | ⟨rfl, f1⟩
  · have hF := (if_pos hfe1.symm).symm.trans hF
    have f1 : (0 : Int) ≤ vk.toInt ∧ vk.toInt ≤ (2 : Int) := f1
    refine lv_if_ne (tgt := 11) hx hb dX12_on_6 (by decide) (fun _ => ?_) (fun c => absurd c (by decide))
    refine lv_bipush (v := 64) hx hb dX12_on_11 (by decide) ?_
    refine lv_iload_n hx hb dX12_on_13 rfl (lv_at hl 1 rfl) ?_
    refine lv_imul hx hb dX12_on_14 ?_
    refine lv_topi (fun t2 et2 => ?_)
    have hF := mi_let hF et2
    have at2 : t2.toInt = 64 * vk.toInt := by rw [et2]; exact tI_mul (rfl : (64 : Int32).toInt = 64) (rfl : vk.toInt = _) (by omega) (by omega)
    refine lv_istore_n (lv' := [(2, .int t2), (0, .ref (ad 0)), (1, .int vk)]) hx hb dX12_on_15 rfl hl (by decide) rfl (fun ls hl => ?_)
    refine lv_aload_n hx hb dX12_on_16 rfl (lv_at hl 1 rfl) ?_
    refine va_get (D := (dC, dI)) (ci := 12) (v := .ref (ad 15)) (C := RX12) (T := TX12) (N := 46) hx hb hts inG12 hown hK hP 0 (gM_0 cs ad mu) rfl 25 (by decide) (hts _ (List.mem_cons_of_mem _ mw_5_66)) (fun _ h9 => h9) rfl dX12_on_17 ?_
    refine lv_iload_n hx hb dX12_on_20 rfl (lv_at hl 0 rfl) ?_
    refine va_iald hx hb hK hP 15 0 (gM_15 cs ad mu) rfl (show vp_in t2 192 from vi_of (by omega) (by omega)) dX12_on_21 ?_
    have hc3 : ((t2 : Int32).toNatClampNeg : Int) = t2.toInt := tC_of (by omega)
    refine lv_topi (fun y4 ey4 => ?_)
    have hF := mi_let hF ey4
    have by4 : y4.toInt = (mu 15 t2.toNatClampNeg).toInt := congrArg Int32.toInt ey4
    refine lv_bipush (v := (-9)) hx hb dX12_on_22 (by decide) ?_
    refine lv_icmp_ne (tgt := 33) hx hb dX12_on_24 (by decide) (fun c_5 => ?_) (fun c_5 => ?_)
    · have hF := (if_neg c_5).symm.trans hF
      have c_5 : ¬ y4.toInt = -9 := il_ne c_5
      refine lv_aload_n hx hb dX12_on_33 rfl (lv_at hl 1 rfl) ?_
      refine lv_aload_n hx hb dX12_on_34 rfl (lv_at hl 1 rfl) ?_
      refine va_get (D := (dC, dI)) (ci := 12) (v := .ref (ad 15)) (C := RX12) (T := TX12) (N := 46) hx hb hts inG12 hown hK hP 0 (gM_0 cs ad mu) rfl 25 (by decide) (hts _ (List.mem_cons_of_mem _ mw_5_66)) (fun _ h9 => h9) rfl dX12_on_35 ?_
      refine lv_iload_n hx hb dX12_on_38 rfl (lv_at hl 0 rfl) ?_
      refine va_iald hx hb hK hP 15 0 (gM_15 cs ad mu) rfl (show vp_in t2 192 from vi_of (by omega) (by omega)) dX12_on_39 ?_
      have hc6 : ((t2 : Int32).toNatClampNeg : Int) = t2.toInt := tC_of (by omega)
      refine lq_i y4 ey4.symm ?_
      refine va_put (D := (dC, dI)) (ci := 12) (v := .int y4) (ty := .int) (C := RX12) (T := TX12) (N := 46) hx hb hts inG12 tyX12 tyX12_ok nmX12 hown hK hP (wR_D mu hD) hS 0 (gM_0 cs ad mu) rfl 14 (by decide) (hts _ (List.mem_cons_of_mem _ mw_5_55)) (fun _ h9 => h9) rfl (by decide +kernel) rfl rfl (Nat.le_of_ble_eq_true rfl) dX12_on_40 (fun H locs hP _ hS => ?_)
      simp only [List.set_cons_succ, List.set_cons_zero] at hP
      refine wr_gen (upd (mu 0) 14 y4) hP ((hM_0_14 cs ad _ _)) (fun nu7 hn7 hP => ?_)
      have hF := mi_let hF hn7.symm
      have ok := tM_0_14 ok hn7
      have ez8 : y4 = nu7 15 t2.toNatClampNeg := ey4.trans (congrFun (up_k hn7 (by decide)) t2.toNatClampNeg).symm
      have kp9 : (∀ k f : Nat, Nat.testBit 38 (gpM k f) = true → nu7 k f = mu k f) := kp_f hn7 (by decide) (fun _ _ _ => rfl)
      have ez10 : y4 = nu7 0 14 := up_v hn7
      refine lv_aload_n hx hb dX12_on_43 rfl (lv_at hl 1 rfl) ?_
      refine lv_aload_n hx hb dX12_on_44 rfl (lv_at hl 1 rfl) ?_
      refine va_get (D := (dC, dI)) (ci := 12) (v := .ref (ad 15)) (C := RX12) (T := TX12) (N := 46) hx hb hts inG12 hown hK hP 0 (gM_0 cs ad nu7) rfl 25 (by decide) (hts _ (List.mem_cons_of_mem _ mw_5_66)) (fun _ h9 => h9) rfl dX12_on_45 ?_
      refine lv_iload_n hx hb dX12_on_48 rfl (lv_at hl 0 rfl) ?_
      refine lv_iconst (v := 1) hx hb dX12_on_49 (by decide) ?_
      refine lv_iadd hx hb dX12_on_50 ?_
      refine lv_topi (fun t11 et11 => ?_)
      have hF := mi_let hF et11
      have at11 : t11.toInt = t2.toInt + 1 := by rw [et11]; exact va1 (by omega)
      refine va_iald hx hb hK hP 15 0 (gM_15 cs ad nu7) rfl (show vp_in t11 192 from vi_of (by omega) (by omega)) dX12_on_51 ?_
      have hc12 : ((t11 : Int32).toNatClampNeg : Int) = t11.toInt := tC_of (by omega)
      refine lv_topi (fun y13 ey13 => ?_)
      have hF := mi_let hF ey13
      have by13 : y13.toInt = (nu7 15 t11.toNatClampNeg).toInt := congrArg Int32.toInt ey13
      refine va_put (D := (dC, dI)) (ci := 12) (v := .int y13) (ty := .int) (C := RX12) (T := TX12) (N := 46) hx hb hts inG12 tyX12 tyX12_ok nmX12 hown hK hP (wR_D nu7 hD) hS 0 (gM_0 cs ad nu7) rfl 13 (by decide) (hts _ (List.mem_cons_of_mem _ mw_5_54)) (fun _ h9 => h9) rfl (by decide +kernel) rfl rfl (Nat.le_of_ble_eq_true rfl) dX12_on_52 (fun H locs hP _ hS => ?_)
      simp only [List.set_cons_succ, List.set_cons_zero] at hP
      refine wr_gen (upd (nu7 0) 13 y13) hP ((hM_0_13 cs ad _ _)) (fun nu14 hn14 hP => ?_)
      have hF := mi_let hF hn14.symm
      have ok := tM_0_13 ok hn14
      have ez15 : y4 = nu14 15 t2.toNatClampNeg := ez8.trans (congrFun (up_k hn14 (by decide)) t2.toNatClampNeg).symm
      have ez16 : y4 = nu14 0 14 := ez10.trans (up_f hn14 (by decide)).symm
      have ez17 : y13 = nu14 15 t11.toNatClampNeg := ey13.trans (congrFun (up_k hn14 (by decide)) t11.toNatClampNeg).symm
      have kp18 : (∀ k f : Nat, Nat.testBit 38 (gpM k f) = true → nu14 k f = mu k f) := kp_f hn14 (by decide) kp9
      have ez19 : y13 = nu14 0 13 := up_v hn14
      refine lv_aload_n hx hb dX12_on_55 rfl (lv_at hl 1 rfl) ?_
      refine lv_aload_n hx hb dX12_on_56 rfl (lv_at hl 1 rfl) ?_
      refine va_get (D := (dC, dI)) (ci := 12) (v := .ref (ad 15)) (C := RX12) (T := TX12) (N := 46) hx hb hts inG12 hown hK hP 0 (gM_0 cs ad nu14) rfl 25 (by decide) (hts _ (List.mem_cons_of_mem _ mw_5_66)) (fun _ h9 => h9) rfl dX12_on_57 ?_
      refine lv_iload_n hx hb dX12_on_60 rfl (lv_at hl 0 rfl) ?_
      refine lv_iconst (v := 2) hx hb dX12_on_61 (by decide) ?_
      refine lv_iadd hx hb dX12_on_62 ?_
      refine lv_topi (fun t20 et20 => ?_)
      have hF := mi_let hF et20
      have at20 : t20.toInt = t2.toInt + 2 := by rw [et20]; exact tI_add (rfl : t2.toInt = _) (rfl : (2 : Int32).toInt = 2) (by omega) (by omega)
      refine va_iald hx hb hK hP 15 0 (gM_15 cs ad nu14) rfl (show vp_in t20 192 from vi_of (by omega) (by omega)) dX12_on_63 ?_
      have hc21 : ((t20 : Int32).toNatClampNeg : Int) = t20.toInt := tC_of (by omega)
      refine lv_topi (fun y22 ey22 => ?_)
      have hF := mi_let hF ey22
      have by22 : y22.toInt = (nu14 15 t20.toNatClampNeg).toInt := congrArg Int32.toInt ey22
      have gy22 : 0 ≤ y22.toInt ∧ y22.toInt ≤ 4 := by rw [ey22]; exact (rM_15_s ok t20.toNatClampNeg).1 (by omega)
      refine va_put (D := (dC, dI)) (ci := 12) (v := .int y22) (ty := .int) (C := RX12) (T := TX12) (N := 46) hx hb hts inG12 tyX12 tyX12_ok nmX12 hown hK hP (wR_D nu14 hD) hS 0 (gM_0 cs ad nu14) rfl 15 (by decide) (hts _ (List.mem_cons_of_mem _ mw_5_56)) (fun _ h9 => h9) rfl (by decide +kernel) rfl rfl (Nat.le_of_ble_eq_true rfl) dX12_on_64 (fun H locs hP _ hS => ?_)
      simp only [List.set_cons_succ, List.set_cons_zero] at hP
      refine wr_gen (upd (nu14 0) 15 y22) hP ((hM_0_15 cs ad _ _)) (fun nu23 hn23 hP => ?_)
      have hF := mi_let hF hn23.symm
      have ok := tM_0_15 ok hn23 (by omega)
      have ez24 : y4 = nu23 15 t2.toNatClampNeg := ez15.trans (congrFun (up_k hn23 (by decide)) t2.toNatClampNeg).symm
      have ez25 : y4 = nu23 0 14 := ez16.trans (up_f hn23 (by decide)).symm
      have ez26 : y13 = nu23 15 t11.toNatClampNeg := ez17.trans (congrFun (up_k hn23 (by decide)) t11.toNatClampNeg).symm
      have ez27 : y13 = nu23 0 13 := ez19.trans (up_f hn23 (by decide)).symm
      have ez28 : y22 = nu23 15 t20.toNatClampNeg := ey22.trans (congrFun (up_k hn23 (by decide)) t20.toNatClampNeg).symm
      have kp29 : (∀ k f : Nat, Nat.testBit 38 (gpM k f) = true → nu23 k f = mu k f) := kp_f hn23 (by decide) kp18
      have ez30 : y22 = nu23 0 15 := up_v hn23
      refine lv_iconst (v := 0) hx hb dX12_on_67 (by decide) ?_
      refine lv_istore_n (lv' := [(3, .int 0), (2, .int t2), (0, .ref (ad 0)), (1, .int vk)]) hx hb dX12_on_68 rfl hl (by decide) rfl (fun ls hl => ?_)
      have loop69 : ∀ (n69 : Nat) (v3_69 : Int32) (nu69_ : Nat → Nat → Int32) (H : Heap) (locs : List Loc) (ls : Array Slot), (7 + 1 - v3_69.toInt).toNat < n69 → (0 ≤ v3_69.toInt ∧ v3_69.toInt ≤ 7) → okR loM hiM nu69_ → va_P (dC, dI) vwCl (wR 21 ad (EM cs ad) nu69_) H → (∀ k f : Nat, Nat.testBit 38 (gpM k f) = true → nu69_ k f = mu k f) → L_qm_on_69_0 t2 n69 v3_69 nu69_ = fz → va_S (va_A (wR 21 ad (EM cs ad) mu) s.heap.size) s.heap H locs → lv_has ls 4 [(3, .int v3_69), (2, .int t2), (0, .ref (ad 0)), (1, .int vk)] → W p l e (headSpec (wU yX12_on cX12_on 4 (some .int)) ({ frames := 1, cells := 0, slots := 0, locals := 22 })).room s m ([.ref (ad 0), .int vk] : List Value).toArray below meth c H locs 0 0 (MQ below (va_Qi (fun (z : Int32) (xi : Nat → Nat → Int32) => (z, xi) = F_qm_on mu vk ∧ okR loM hiM xi ∧ (True) ∧ (∀ k f : Nat, Nat.testBit 38 (gpM k f) = true → xi k f = mu k f)) (fun xi t => va_P (dC, dI) vwCl (wR 21 ad (EM cs ad) xi) t.heap) (va_A (wR 21 ad (EM cs ad) mu) s.heap.size)) ([.ref (ad 0), .int vk] : List Value).toArray s 0 0 (va_A (wR 21 ad (EM cs ad) mu) s.heap.size)) (F0 m 69 ls []) := by
        intro n69
        induction n69 with
        | zero => intro v3_69 nu69_ H locs ls hm; exact absurd hm (Nat.not_lt_zero _)
        | succ n69 ih69 =>
          intro v3_69 nu69_ H locs ls hm_69 h_v3_69 ok hP kq69_0 hF hS hl
          rw [L_qm_on_69_0] at hF
          refine lv_iload_n hx hb dX12_on_69 rfl (lv_at hl 0 rfl) ?_
          refine lv_bipush (v := 7) hx hb dX12_on_70 (by decide) ?_
          refine lv_icmp_ge (tgt := 97) hx hb dX12_on_72 (by decide) (fun c_31 => ?_) (fun c_31 => ?_)
          · have hF := (if_pos c_31).symm.trans hF
            have c_31 : 7 ≤ v3_69.toInt := il_le c_31
            refine lv_iconst (v := 0) hx hb dX12_on_97 (by decide) ?_
            refine lv_istore_n (lv' := [(3, .int 0), (2, .int t2), (0, .ref (ad 0)), (1, .int vk)]) hx hb dX12_on_98 rfl hl (by decide) rfl (fun ls hl => ?_)
            have loop99 : ∀ (n99 : Nat) (v3_99 : Int32) (nu99_ : Nat → Nat → Int32) (H : Heap) (locs : List Loc) (ls : Array Slot), (40 + 1 - v3_99.toInt).toNat < n99 → (0 ≤ v3_99.toInt ∧ v3_99.toInt ≤ 40) → okR loM hiM nu99_ → va_P (dC, dI) vwCl (wR 21 ad (EM cs ad) nu99_) H → (∀ k f : Nat, Nat.testBit 38 (gpM k f) = true → nu99_ k f = mu k f) → L_qm_on_99_1 t2 n99 v3_99 nu99_ = fz → va_S (va_A (wR 21 ad (EM cs ad) mu) s.heap.size) s.heap H locs → lv_has ls 4 [(3, .int v3_99), (2, .int t2), (0, .ref (ad 0)), (1, .int vk)] → W p l e (headSpec (wU yX12_on cX12_on 4 (some .int)) ({ frames := 1, cells := 0, slots := 0, locals := 22 })).room s m ([.ref (ad 0), .int vk] : List Value).toArray below meth c H locs 0 0 (MQ below (va_Qi (fun (z : Int32) (xi : Nat → Nat → Int32) => (z, xi) = F_qm_on mu vk ∧ okR loM hiM xi ∧ (True) ∧ (∀ k f : Nat, Nat.testBit 38 (gpM k f) = true → xi k f = mu k f)) (fun xi t => va_P (dC, dI) vwCl (wR 21 ad (EM cs ad) xi) t.heap) (va_A (wR 21 ad (EM cs ad) mu) s.heap.size)) ([.ref (ad 0), .int vk] : List Value).toArray s 0 0 (va_A (wR 21 ad (EM cs ad) mu) s.heap.size)) (F0 m 99 ls []) := by
              intro n99
              induction n99 with
              | zero => intro v3_99 nu99_ H locs ls hm; exact absurd hm (Nat.not_lt_zero _)
              | succ n99 ih99 =>
                intro v3_99 nu99_ H locs ls hm_99 h_v3_99 ok hP kq99_0 hF hS hl
                rw [L_qm_on_99_1] at hF
                refine lv_iload_n hx hb dX12_on_99 rfl (lv_at hl 0 rfl) ?_
                refine lv_bipush (v := 40) hx hb dX12_on_100 (by decide) ?_
                refine lv_icmp_ge (tgt := 128) hx hb dX12_on_102 (by decide) (fun c_32 => ?_) (fun c_32 => ?_)
                · have hF := (if_pos c_32).symm.trans hF
                  have c_32 : 40 ≤ v3_99.toInt := il_le c_32
                  refine lv_aload_n hx hb dX12_on_128 rfl (lv_at hl 2 rfl) ?_
                  refine lv_iconst (v := 0) hx hb dX12_on_129 (by decide) ?_
                  refine va_put (D := (dC, dI)) (ci := 12) (v := .int 0) (ty := .int) (C := RX12) (T := TX12) (N := 46) hx hb hts inG12 tyX12 tyX12_ok nmX12 hown hK hP (wR_D nu99_ hD) hS 0 (gM_0 cs ad nu99_) rfl 17 (by decide) (hts _ (List.mem_cons_of_mem _ mw_5_58)) (fun _ h9 => h9) rfl (by decide +kernel) rfl rfl (Nat.le_of_ble_eq_true rfl) dX12_on_130 (fun H locs hP _ hS => ?_)
                  simp only [List.set_cons_succ, List.set_cons_zero] at hP
                  refine wr_gen (upd (nu99_ 0) 17 0) hP ((hM_0_17 cs ad _ _)) (fun nu33 hn33 hP => ?_)
                  have hF := mi_let hF hn33.symm
                  have ok := tM_0_17 ok hn33 (by have h9 : (0 : Int32).toInt = 0 := rfl; exact ⟨by omega, by omega⟩)
                  have kp34 : (∀ k f : Nat, Nat.testBit 38 (gpM k f) = true → nu33 k f = mu k f) := kp_f hn33 (by decide) kq99_0
                  have ez35 : 0 = nu33 0 17 := up_v hn33
                  refine lv_aload_n hx hb dX12_on_133 rfl (lv_at hl 2 rfl) ?_
                  refine va_get (D := (dC, dI)) (ci := 12) (v := .int (nu33 0 14)) (C := RX12) (T := TX12) (N := 46) hx hb hts inG12 hown hK hP 0 (gM_0 cs ad nu33) rfl 14 (by decide) (hts _ (List.mem_cons_of_mem _ mw_5_55)) (fun _ h9 => h9) rfl dX12_on_134 ?_
                  refine lv_topi (fun y36 ey36 => ?_)
                  have hF := mi_let hF ey36
                  have by36 : y36.toInt = (nu33 0 14).toInt := congrArg Int32.toInt ey36
                  exact W.iret (v := y36) hx hb hr (fun t ht hW => ⟨⟨y36, nu33, rfl, ⟨hF.trans hfz.symm, ok, trivial, kp34⟩, by first | (subst ht; exact hP) | (rw [ht]; exact hP) | (show va_P (dC, dI) vwCl (wR 21 ad (EM cs ad) nu33) t.heap; rw [ht]; exact hP)⟩, hS.F ht⟩) hS.2.2 dX12_on_137
                · have hF := (if_neg c_32).symm.trans hF
                  have c_32 : v3_99.toInt < 40 := il_nle c_32
                  refine lv_aload_n hx hb dX12_on_105 rfl (lv_at hl 2 rfl) ?_
                  refine va_get (D := (dC, dI)) (ci := 12) (v := .ref (ad 10)) (C := RX12) (T := TX12) (N := 46) hx hb hts inG12 hown hK hP 0 (gM_0 cs ad nu99_) rfl 16 (by decide) (hts _ (List.mem_cons_of_mem _ mw_5_57)) (fun _ h9 => h9) rfl dX12_on_106 ?_
                  refine lv_iload_n hx hb dX12_on_109 rfl (lv_at hl 0 rfl) ?_
                  refine lv_aload_n hx hb dX12_on_110 rfl (lv_at hl 2 rfl) ?_
                  refine va_get (D := (dC, dI)) (ci := 12) (v := .ref (ad 15)) (C := RX12) (T := TX12) (N := 46) hx hb hts inG12 hown hK hP 0 (gM_0 cs ad nu99_) rfl 25 (by decide) (hts _ (List.mem_cons_of_mem _ mw_5_66)) (fun _ h9 => h9) rfl dX12_on_111 ?_
                  refine lv_iload_n hx hb dX12_on_114 rfl (lv_at hl 1 rfl) ?_
                  refine lv_bipush (v := 10) hx hb dX12_on_115 (by decide) ?_
                  refine lv_iadd hx hb dX12_on_117 ?_
                  refine lv_topi (fun t37 et37 => ?_)
                  have hF := mi_let hF et37
                  have at37 : t37.toInt = t2.toInt + 10 := by rw [et37]; exact tI_add (rfl : t2.toInt = _) (rfl : (10 : Int32).toInt = 10) (by omega) (by omega)
                  refine lv_iload_n hx hb dX12_on_118 rfl (lv_at hl 0 rfl) ?_
                  refine lv_iadd hx hb dX12_on_119 ?_
                  refine lv_topi (fun t38 et38 => ?_)
                  have hF := mi_let hF et38
                  have at38 : t38.toInt = t37.toInt + v3_99.toInt := by rw [et38]; exact tI_add (rfl : t37.toInt = _) (rfl : v3_99.toInt = _) (by omega) (by omega)
                  refine va_iald hx hb hK hP 15 0 (gM_15 cs ad nu99_) rfl (show vp_in t38 192 from vi_of (by omega) (by omega)) dX12_on_120 ?_
                  have hc39 : ((t38 : Int32).toNatClampNeg : Int) = t38.toInt := tC_of (by omega)
                  refine lv_topi (fun y40 ey40 => ?_)
                  have hF := mi_let hF ey40
                  have by40 : y40.toInt = (nu99_ 15 t38.toNatClampNeg).toInt := congrArg Int32.toInt ey40
                  refine va_iast hx hb hK hP (wR_D nu99_ hD) hS 10 0 (gM_10 cs ad nu99_) rfl (show vp_in v3_99 40 from vi_of (by omega) (by omega)) dX12_on_121 (fun H locs hP _ hS => ?_)
                  have hc41 : ((v3_99 : Int32).toNatClampNeg : Int) = v3_99.toInt := tC_of (by omega)
                  refine wr_gen (upd (nu99_ 10) v3_99.toNatClampNeg y40) hP (rfl) (fun nu42 hn42 hP => ?_)
                  have hF := mi_let hF hn42.symm
                  have ok := okR_one ok ey40 (by have u1 := tC_of (v := t38) (by omega); have u2 := tC_of (v := vk) (by omega); have u3 := tC_of (v := v3_99) (by omega); rw [show t38.toNatClampNeg = 64 * vk.toNatClampNeg + 10 + v3_99.toNatClampNeg by omega]; exact kp_out _ (by omega) _ (by omega)) hn42
                  have ez43 : y40 = nu42 15 t38.toNatClampNeg := ey40.trans (congrFun (up_k hn42 (by decide)) t38.toNatClampNeg).symm
                  have kp44 : (∀ k f : Nat, Nat.testBit 38 (gpM k f) = true → nu42 k f = mu k f) := kp_c 3 hn42 (fun _ => rfl) (by decide) kq99_0
                  refine lv_iinc (v := (v3_99 + 1)) (lv' := [(3, .int (v3_99 + 1)), (2, .int t2), (0, .ref (ad 0)), (1, .int vk)]) hx hb dX12_on_122 hl (k := 0) rfl rfl (by decide) rfl (fun ls hl => ?_)
                  refine loc_gen (P := fun w9 => lv_has ls 4 [(3, .int w9), (2, .int t2), (0, .ref (ad 0)), (1, .int vk)]) (v3_99 + 1) hl (fun w45 hw45 hl => ?_)
                  have hl : lv_has ls 4 [(3, .int w45), (2, .int t2), (0, .ref (ad 0)), (1, .int vk)] := hl
                  have hF := mi_let hF hw45.symm
                  have aw45 : w45.toInt = v3_99.toInt + 1 := by rw [← hw45]; first | exact va1 (Int.lt_of_le_of_lt h_v3_99.2 (by decide)) | exact va1 (by omega)
                  refine lv_goto (tgt := 99) hx hb dX12_on_125 (by decide) ?_
                  exact ih99 (w45) nu42 _ _ _ (by first | exact ms_up hm_99 aw45 h_v3_99.2 | exact ms_lt hm_99 (by omega) (by omega) | omega) (by first | exact rg_up aw45 h_v3_99 (by omega) | omega)  ok hP  kp44 hF hS (lv_sub hl [0, 1, 2, 3] rfl)
            exact loop99 43 (0) nu69_ _ _ _ (by have h80 : (0 : Int32).toInt = 0 := rfl; omega) (by have h80 : (0 : Int32).toInt = 0 := rfl; exact ⟨by omega, by omega⟩)  ok hP  kq69_0 hF hS hl
          · have hF := (if_neg c_31).symm.trans hF
            have c_31 : v3_69.toInt < 7 := il_nle c_31
            refine lv_aload_n hx hb dX12_on_75 rfl (lv_at hl 2 rfl) ?_
            refine va_get (D := (dC, dI)) (ci := 12) (v := .ref (ad 8)) (C := RX12) (T := TX12) (N := 46) hx hb hts inG12 hown hK hP 0 (gM_0 cs ad nu69_) rfl 10 (by decide) (hts _ (List.mem_cons_of_mem _ mw_5_51)) (fun _ h9 => h9) rfl dX12_on_76 ?_
            refine lv_iload_n hx hb dX12_on_79 rfl (lv_at hl 0 rfl) ?_
            refine lv_aload_n hx hb dX12_on_80 rfl (lv_at hl 2 rfl) ?_
            refine va_get (D := (dC, dI)) (ci := 12) (v := .ref (ad 15)) (C := RX12) (T := TX12) (N := 46) hx hb hts inG12 hown hK hP 0 (gM_0 cs ad nu69_) rfl 25 (by decide) (hts _ (List.mem_cons_of_mem _ mw_5_66)) (fun _ h9 => h9) rfl dX12_on_81 ?_
            refine lv_iload_n hx hb dX12_on_84 rfl (lv_at hl 1 rfl) ?_
            refine lv_iconst (v := 3) hx hb dX12_on_85 (by decide) ?_
            refine lv_iadd hx hb dX12_on_86 ?_
            refine lv_topi (fun t46 et46 => ?_)
            have hF := mi_let hF et46
            have at46 : t46.toInt = t2.toInt + 3 := by rw [et46]; exact tI_add (rfl : t2.toInt = _) (rfl : (3 : Int32).toInt = 3) (by omega) (by omega)
            refine lv_iload_n hx hb dX12_on_87 rfl (lv_at hl 0 rfl) ?_
            refine lv_iadd hx hb dX12_on_88 ?_
            refine lv_topi (fun t47 et47 => ?_)
            have hF := mi_let hF et47
            have at47 : t47.toInt = t46.toInt + v3_69.toInt := by rw [et47]; exact tI_add (rfl : t46.toInt = _) (rfl : v3_69.toInt = _) (by omega) (by omega)
            refine va_iald hx hb hK hP 15 0 (gM_15 cs ad nu69_) rfl (show vp_in t47 192 from vi_of (by omega) (by omega)) dX12_on_89 ?_
            have hc48 : ((t47 : Int32).toNatClampNeg : Int) = t47.toInt := tC_of (by omega)
            refine lv_topi (fun y49 ey49 => ?_)
            have hF := mi_let hF ey49
            have by49 : y49.toInt = (nu69_ 15 t47.toNatClampNeg).toInt := congrArg Int32.toInt ey49
            refine va_iast hx hb hK hP (wR_D nu69_ hD) hS 8 0 (gM_8 cs ad nu69_) rfl (show vp_in v3_69 7 from vi_of (by omega) (by omega)) dX12_on_90 (fun H locs hP _ hS => ?_)
            refine wr_gen (upd (nu69_ 8) v3_69.toNatClampNeg y49) hP (rfl) (fun nu50 hn50 hP => ?_)
            have hF := mi_let hF hn50.symm
            have ok := tM_8_s ok v3_69.toNatClampNeg hn50
            have ez51 : y49 = nu50 15 t47.toNatClampNeg := ey49.trans (congrFun (up_k hn50 (by decide)) t47.toNatClampNeg).symm
            have kp52 : (∀ k f : Nat, Nat.testBit 38 (gpM k f) = true → nu50 k f = mu k f) := kp_c 3 hn50 (fun _ => rfl) (by decide) kq69_0
            refine lv_iinc (v := (v3_69 + 1)) (lv' := [(3, .int (v3_69 + 1)), (2, .int t2), (0, .ref (ad 0)), (1, .int vk)]) hx hb dX12_on_91 hl (k := 0) rfl rfl (by decide) rfl (fun ls hl => ?_)
            refine loc_gen (P := fun w9 => lv_has ls 4 [(3, .int w9), (2, .int t2), (0, .ref (ad 0)), (1, .int vk)]) (v3_69 + 1) hl (fun w53 hw53 hl => ?_)
            have hl : lv_has ls 4 [(3, .int w53), (2, .int t2), (0, .ref (ad 0)), (1, .int vk)] := hl
            have hF := mi_let hF hw53.symm
            have aw53 : w53.toInt = v3_69.toInt + 1 := by rw [← hw53]; first | exact va1 (Int.lt_of_le_of_lt h_v3_69.2 (by decide)) | exact va1 (by omega)
            refine lv_goto (tgt := 69) hx hb dX12_on_94 (by decide) ?_
            exact ih69 (w53) nu50 _ _ _ (by first | exact ms_up hm_69 aw53 h_v3_69.2 | exact ms_lt hm_69 (by omega) (by omega) | omega) (by first | exact rg_up aw53 h_v3_69 (by omega) | omega)  ok hP  kp52 hF hS (lv_sub hl [0, 1, 2, 3] rfl)
      exact loop69 10 (0) nu23 _ _ _ (by have h80 : (0 : Int32).toInt = 0 := rfl; omega) (by have h80 : (0 : Int32).toInt = 0 := rfl; exact ⟨by omega, by omega⟩)  ok hP  kp29 hF hS hl
    · have hF := (if_pos c_5).symm.trans hF
      have c_5 : y4.toInt = -9 := il_eq c_5
      refine lv_aload_n hx hb dX12_on_27 rfl (lv_at hl 1 rfl) ?_
      refine lv_iconst (v := 1) hx hb dX12_on_28 (by decide) ?_
      have hFc := fr_all (wR_D mu hD) hS hA
      refine va_calli (va_runV (As := [.int 1]) (rest := []) ⟨hx, hb, hml, hown, hts⟩ (sm_meet l dC dI cs ad mu ok s.heap hP ((wR_D mu hD).weaken (fun _ _ _ _ => trivial)) 1 (by have h50 : (1 : Int32).toInt = 1 := rfl; omega)) (cwV 1 hts (wU_V mw_5_193 mw_5_190 mw_5_192 mw_0_26 mw_1_13) rfl rfl rfl (by decide +kernel) ⟨Nat.le_of_ble_eq_true rfl, Nat.le_of_ble_eq_true rfl⟩) ⟨sz_c, va_recv hK hP (ci := 12) (q0 := 0) rfl (gM_0 cs ad mu), sz_m hK hz⟩ rfl rfl hl.1 rfl (lv_room (Nat.le_of_ble_eq_true rfl)) dX12_on_29 ⟨Nat.zero_le _, Nat.zero_le _⟩) hS (fun q _ h => hFc q h) hFc (fun r54 xi54 t H54 locs ht hvm hw54 hB hz1 hk1 hS => ?_)
      have hP : va_P (dC, dI) vwCl (wR 21 ad (EM cs ad) xi54) H54 := by rw [← ht]; exact hB
      obtain ⟨hfe54, ok, hw54, hkp54_0⟩ := hw54
      have hF := mi_letp hF hfe54
      have kp55 : (∀ k f : Nat, Nat.testBit 38 (gpM k f) = true → xi54 k f = mu k f) := kp_t hkp54_0 (by decide) (fun _ _ _ => rfl)
      have gr54 : -3 ≤ r54.toInt ∧ r54.toInt ≤ -3 := hw54
      exact W.iret (v := r54) hx hb hr (fun t ht hW => ⟨⟨r54, xi54, rfl, ⟨hF.trans hfz.symm, ok, trivial, kp55⟩, by first | (subst ht; exact hP) | (rw [ht]; exact hP) | (show va_P (dC, dI) vwCl (wR 21 ad (EM cs ad) xi54) t.heap; rw [ht]; exact hP)⟩, hS.F ht⟩) hS.2.2 dX12_on_32
  · have hF := (if_neg (fun h => absurd (hfe1.trans h) (by decide))).symm.trans hF
    have f1 : vk.toInt < (0 : Int) ∨ (2 : Int) < vk.toInt := f1
    refine lv_if_ne (tgt := 11) hx hb dX12_on_6 (by decide) (fun c => absurd (by decide) c) (fun _ => ?_)
    refine lv_iconst (v := (-1)) hx hb dX12_on_9 (by decide) ?_
    exact W.iret (v := (-1)) hx hb hr (fun t ht hW => ⟨⟨(-1), mu, rfl, ⟨hF.trans hfz.symm, ok, trivial, (fun _ _ _ => rfl)⟩, by first | (subst ht; exact hP) | (rw [ht]; exact hP) | (show va_P (dC, dI) vwCl (wR 21 ad (EM cs ad) mu) t.heap; rw [ht]; exact hP)⟩, hS.F ht⟩) hS.2.2 dX12_on_10
theorem mw_5_67 : (Cond.fieldLink RX12 55 "DearLettersModel" "route" "[I" : Cond) ∈ lw_good := lg_at 5 67 rfl rfl
theorem mw_5_71 : (Cond.fieldLink RX12 210 "DearLettersModel" "routeMany" "I" : Cond) ∈ lw_good := lg_at 5 71 rfl rfl
theorem mw_5_80 : (Cond.fieldLink RX12 223 "DearLettersModel" "looked" "I" : Cond) ∈ lw_good := lg_at 5 80 rfl rfl
theorem mw_5_74 : (Cond.fieldLink RX12 229 "DearLettersModel" "comeMany" "I" : Cond) ∈ lw_good := lg_at 5 74 rfl rfl
theorem mw_5_77 : (Cond.fieldLink RX12 232 "DearLettersModel" "eachSet" "I" : Cond) ∈ lw_good := lg_at 5 77 rfl rfl
theorem mw_5_76 : (Cond.fieldLink RX12 235 "DearLettersModel" "soonMany" "I" : Cond) ∈ lw_good := lg_at 5 76 rfl rfl
theorem mw_5_75 : (Cond.fieldLink RX12 238 "DearLettersModel" "soonPrice" "I" : Cond) ∈ lw_good := lg_at 5 75 rfl rfl
theorem mw_5_69 : (Cond.fieldLink RX12 61 "DearLettersModel" "soonRoute" "[I" : Cond) ∈ lw_good := lg_at 5 69 rfl rfl
theorem mw_6_191 : (Cond.code yX12_copyRoute cX12_copyRoute 4 none : Cond) ∈ lw_good := lg_at 6 191 rfl rfl
theorem mw_6_188 : (Cond.methodLink RX12 219 yX12_copyRoute : Cond) ∈ lw_good := lg_at 6 188 rfl rfl
theorem mw_6_190 : (Cond.instanceMethod yX12_copyRoute : Cond) ∈ lw_good := lg_at 6 190 rfl rfl
theorem mw_0_57 : (Cond.selects RX12 yX12_copyRoute yX12_copyRoute : Cond) ∈ lw_good := lg_at 0 57 rfl rfl
theorem mw_5_78 : (Cond.fieldLink RX12 226 "DearLettersModel" "leastWorth" "I" : Cond) ∈ lw_good := lg_at 5 78 rfl rfl
theorem mw_5_72 : (Cond.fieldLink RX12 213 "DearLettersModel" "cheapPrice" "I" : Cond) ∈ lw_good := lg_at 5 72 rfl rfl
theorem mw_5_73 : (Cond.fieldLink RX12 216 "DearLettersModel" "cheapMany" "I" : Cond) ∈ lw_good := lg_at 5 73 rfl rfl
theorem mw_5_68 : (Cond.fieldLink RX12 58 "DearLettersModel" "cheapRoute" "[I" : Cond) ∈ lw_good := lg_at 5 68 rfl rfl
theorem rM_16_s {mu : Nat → Nat → Int32} (ok : okR loM hiM mu) (f : Nat) : 0 ≤ (mu 16 f).toInt ∧ (mu 16 f).toInt ≤ 6 := ok 16 f
theorem tM_17_s {mu : Nat → Nat → Int32} (ok : okR loM hiM mu) {nu : Nat → Nat → Int32} {v : Int32} (f : Nat) (hn : va_up mu 17 (upd (mu 17) f v) = nu) : okR loM hiM nu := by
  subst hn
  exact okR_up ok 17 f v (tI_lo v) (tI_hi v)
theorem tM_18_s {mu : Nat → Nat → Int32} (ok : okR loM hiM mu) {nu : Nat → Nat → Int32} {v : Int32} (f : Nat) (hn : va_up mu 18 (upd (mu 18) f v) = nu) : okR loM hiM nu := by
  subst hn
  exact okR_up ok 18 f v (tI_lo v) (tI_hi v)
theorem rM_0_39 {mu : Nat → Nat → Int32} (ok : okR loM hiM mu) : -9 ≤ (mu 0 39).toInt ∧ (mu 0 39).toInt ≤ 3 := ok 0 39
theorem hM_0_30 (cs : Nat → ClassId) (ad : Nat → Nat) (g : Nat → Int32) (v : Int32) : EM cs ad 0 (upd g 30 v) = .inr (12, [.int (g 0), .ref (ad 1), .int (g 2), .ref (ad 2), .ref (ad 3), .ref (ad 4), .ref (ad 5), .ref (ad 6), .int (g 8), .ref (ad 7), .ref (ad 8), .int (g 11), .ref (ad 9), .int (g 13), .int (g 14), .int (g 15), .ref (ad 10), .int (g 17), .int (g 18), .int (g 19), .int (g 20), .ref (ad 11), .ref (ad 12), .ref (ad 13), .ref (ad 14), .ref (ad 15), .ref (ad 16), .ref (ad 17), .ref (ad 18), .int (g 29), .int v, .int (g 31), .int (g 32), .int (g 33), .int (g 34), .int (g 35), .int (g 36), .int (g 37), .int (g 38), .int (g 39), .ref (ad 19), .ref (ad 20), .int (g 42), .int (g 43), .int (g 44), .long (jn (g 45) (g 46))]) := by
  rfl
theorem tM_0_30 {mu : Nat → Nat → Int32} (ok : okR loM hiM mu) {nu : Nat → Nat → Int32} {v : Int32} (hn : va_up mu 0 (upd (mu 0) 30 v) = nu) : okR loM hiM nu := by
  subst hn
  exact okR_up ok 0 30 v (tI_lo v) (tI_hi v)
theorem hM_0_33 (cs : Nat → ClassId) (ad : Nat → Nat) (g : Nat → Int32) (v : Int32) : EM cs ad 0 (upd g 33 v) = .inr (12, [.int (g 0), .ref (ad 1), .int (g 2), .ref (ad 2), .ref (ad 3), .ref (ad 4), .ref (ad 5), .ref (ad 6), .int (g 8), .ref (ad 7), .ref (ad 8), .int (g 11), .ref (ad 9), .int (g 13), .int (g 14), .int (g 15), .ref (ad 10), .int (g 17), .int (g 18), .int (g 19), .int (g 20), .ref (ad 11), .ref (ad 12), .ref (ad 13), .ref (ad 14), .ref (ad 15), .ref (ad 16), .ref (ad 17), .ref (ad 18), .int (g 29), .int (g 30), .int (g 31), .int (g 32), .int v, .int (g 34), .int (g 35), .int (g 36), .int (g 37), .int (g 38), .int (g 39), .ref (ad 19), .ref (ad 20), .int (g 42), .int (g 43), .int (g 44), .long (jn (g 45) (g 46))]) := by
  rfl
theorem tM_0_33 {mu : Nat → Nat → Int32} (ok : okR loM hiM mu) {nu : Nat → Nat → Int32} {v : Int32} (hn : va_up mu 0 (upd (mu 0) 33 v) = nu) : okR loM hiM nu := by
  subst hn
  exact okR_up ok 0 33 v (tI_lo v) (tI_hi v)
theorem hM_0_36 (cs : Nat → ClassId) (ad : Nat → Nat) (g : Nat → Int32) (v : Int32) : EM cs ad 0 (upd g 36 v) = .inr (12, [.int (g 0), .ref (ad 1), .int (g 2), .ref (ad 2), .ref (ad 3), .ref (ad 4), .ref (ad 5), .ref (ad 6), .int (g 8), .ref (ad 7), .ref (ad 8), .int (g 11), .ref (ad 9), .int (g 13), .int (g 14), .int (g 15), .ref (ad 10), .int (g 17), .int (g 18), .int (g 19), .int (g 20), .ref (ad 11), .ref (ad 12), .ref (ad 13), .ref (ad 14), .ref (ad 15), .ref (ad 16), .ref (ad 17), .ref (ad 18), .int (g 29), .int (g 30), .int (g 31), .int (g 32), .int (g 33), .int (g 34), .int (g 35), .int v, .int (g 37), .int (g 38), .int (g 39), .ref (ad 19), .ref (ad 20), .int (g 42), .int (g 43), .int (g 44), .long (jn (g 45) (g 46))]) := by
  rfl
theorem tM_0_36 {mu : Nat → Nat → Int32} (ok : okR loM hiM mu) {nu : Nat → Nat → Int32} {v : Int32} (hn : va_up mu 0 (upd (mu 0) 36 v) = nu) : okR loM hiM nu := by
  subst hn
  exact okR_up ok 0 36 v (tI_lo v) (tI_hi v)
theorem hM_0_34 (cs : Nat → ClassId) (ad : Nat → Nat) (g : Nat → Int32) (v : Int32) : EM cs ad 0 (upd g 34 v) = .inr (12, [.int (g 0), .ref (ad 1), .int (g 2), .ref (ad 2), .ref (ad 3), .ref (ad 4), .ref (ad 5), .ref (ad 6), .int (g 8), .ref (ad 7), .ref (ad 8), .int (g 11), .ref (ad 9), .int (g 13), .int (g 14), .int (g 15), .ref (ad 10), .int (g 17), .int (g 18), .int (g 19), .int (g 20), .ref (ad 11), .ref (ad 12), .ref (ad 13), .ref (ad 14), .ref (ad 15), .ref (ad 16), .ref (ad 17), .ref (ad 18), .int (g 29), .int (g 30), .int (g 31), .int (g 32), .int (g 33), .int v, .int (g 35), .int (g 36), .int (g 37), .int (g 38), .int (g 39), .ref (ad 19), .ref (ad 20), .int (g 42), .int (g 43), .int (g 44), .long (jn (g 45) (g 46))]) := by
  rfl
theorem tM_0_34 {mu : Nat → Nat → Int32} (ok : okR loM hiM mu) {nu : Nat → Nat → Int32} {v : Int32} (hn : va_up mu 0 (upd (mu 0) 34 v) = nu) : okR loM hiM nu := by
  subst hn
  exact okR_up ok 0 34 v (tI_lo v) (tI_hi v)
theorem hM_0_35 (cs : Nat → ClassId) (ad : Nat → Nat) (g : Nat → Int32) (v : Int32) : EM cs ad 0 (upd g 35 v) = .inr (12, [.int (g 0), .ref (ad 1), .int (g 2), .ref (ad 2), .ref (ad 3), .ref (ad 4), .ref (ad 5), .ref (ad 6), .int (g 8), .ref (ad 7), .ref (ad 8), .int (g 11), .ref (ad 9), .int (g 13), .int (g 14), .int (g 15), .ref (ad 10), .int (g 17), .int (g 18), .int (g 19), .int (g 20), .ref (ad 11), .ref (ad 12), .ref (ad 13), .ref (ad 14), .ref (ad 15), .ref (ad 16), .ref (ad 17), .ref (ad 18), .int (g 29), .int (g 30), .int (g 31), .int (g 32), .int (g 33), .int (g 34), .int v, .int (g 36), .int (g 37), .int (g 38), .int (g 39), .ref (ad 19), .ref (ad 20), .int (g 42), .int (g 43), .int (g 44), .long (jn (g 45) (g 46))]) := by
  rfl
theorem tM_0_35 {mu : Nat → Nat → Int32} (ok : okR loM hiM mu) {nu : Nat → Nat → Int32} {v : Int32} (hn : va_up mu 0 (upd (mu 0) 35 v) = nu) : okR loM hiM nu := by
  subst hn
  exact okR_up ok 0 35 v (tI_lo v) (tI_hi v)
theorem hM_0_37 (cs : Nat → ClassId) (ad : Nat → Nat) (g : Nat → Int32) (v : Int32) : EM cs ad 0 (upd g 37 v) = .inr (12, [.int (g 0), .ref (ad 1), .int (g 2), .ref (ad 2), .ref (ad 3), .ref (ad 4), .ref (ad 5), .ref (ad 6), .int (g 8), .ref (ad 7), .ref (ad 8), .int (g 11), .ref (ad 9), .int (g 13), .int (g 14), .int (g 15), .ref (ad 10), .int (g 17), .int (g 18), .int (g 19), .int (g 20), .ref (ad 11), .ref (ad 12), .ref (ad 13), .ref (ad 14), .ref (ad 15), .ref (ad 16), .ref (ad 17), .ref (ad 18), .int (g 29), .int (g 30), .int (g 31), .int (g 32), .int (g 33), .int (g 34), .int (g 35), .int (g 36), .int v, .int (g 38), .int (g 39), .ref (ad 19), .ref (ad 20), .int (g 42), .int (g 43), .int (g 44), .long (jn (g 45) (g 46))]) := by
  rfl
theorem tM_0_37 {mu : Nat → Nat → Int32} (ok : okR loM hiM mu) {nu : Nat → Nat → Int32} {v : Int32} (hn : va_up mu 0 (upd (mu 0) 37 v) = nu) : okR loM hiM nu := by
  subst hn
  exact okR_up ok 0 37 v (tI_lo v) (tI_hi v)
theorem hM_0_31 (cs : Nat → ClassId) (ad : Nat → Nat) (g : Nat → Int32) (v : Int32) : EM cs ad 0 (upd g 31 v) = .inr (12, [.int (g 0), .ref (ad 1), .int (g 2), .ref (ad 2), .ref (ad 3), .ref (ad 4), .ref (ad 5), .ref (ad 6), .int (g 8), .ref (ad 7), .ref (ad 8), .int (g 11), .ref (ad 9), .int (g 13), .int (g 14), .int (g 15), .ref (ad 10), .int (g 17), .int (g 18), .int (g 19), .int (g 20), .ref (ad 11), .ref (ad 12), .ref (ad 13), .ref (ad 14), .ref (ad 15), .ref (ad 16), .ref (ad 17), .ref (ad 18), .int (g 29), .int (g 30), .int v, .int (g 32), .int (g 33), .int (g 34), .int (g 35), .int (g 36), .int (g 37), .int (g 38), .int (g 39), .ref (ad 19), .ref (ad 20), .int (g 42), .int (g 43), .int (g 44), .long (jn (g 45) (g 46))]) := by
  rfl
theorem tM_0_31 {mu : Nat → Nat → Int32} (ok : okR loM hiM mu) {nu : Nat → Nat → Int32} {v : Int32} (hn : va_up mu 0 (upd (mu 0) 31 v) = nu) : okR loM hiM nu := by
  subst hn
  exact okR_up ok 0 31 v (tI_lo v) (tI_hi v)
theorem hM_0_32 (cs : Nat → ClassId) (ad : Nat → Nat) (g : Nat → Int32) (v : Int32) : EM cs ad 0 (upd g 32 v) = .inr (12, [.int (g 0), .ref (ad 1), .int (g 2), .ref (ad 2), .ref (ad 3), .ref (ad 4), .ref (ad 5), .ref (ad 6), .int (g 8), .ref (ad 7), .ref (ad 8), .int (g 11), .ref (ad 9), .int (g 13), .int (g 14), .int (g 15), .ref (ad 10), .int (g 17), .int (g 18), .int (g 19), .int (g 20), .ref (ad 11), .ref (ad 12), .ref (ad 13), .ref (ad 14), .ref (ad 15), .ref (ad 16), .ref (ad 17), .ref (ad 18), .int (g 29), .int (g 30), .int (g 31), .int v, .int (g 33), .int (g 34), .int (g 35), .int (g 36), .int (g 37), .int (g 38), .int (g 39), .ref (ad 19), .ref (ad 20), .int (g 42), .int (g 43), .int (g 44), .long (jn (g 45) (g 46))]) := by
  rfl
theorem tM_0_32 {mu : Nat → Nat → Int32} (ok : okR loM hiM mu) {nu : Nat → Nat → Int32} {v : Int32} (hn : va_up mu 0 (upd (mu 0) 32 v) = nu) (hv : 0 ≤ v.toInt ∧ v.toInt ≤ 7) : okR loM hiM nu := by
  subst hn
  exact okR_up ok 0 32 v hv.1 hv.2
theorem rM_0_32 {mu : Nat → Nat → Int32} (ok : okR loM hiM mu) : 0 ≤ (mu 0 32).toInt ∧ (mu 0 32).toInt ≤ 7 := ok 0 32
theorem lb_X12_copyRoute_0 : dl_ck (cX12_copyRoute.data.toList.drop 0) [3, 62, 29, 28, 162, 0, 18, 43, 29, 42, 180, 0, 55, 29, 46, 79, 132, 3, 1, 167, 255, 239, 177] = true := by decide +kernel
theorem dX12_copyRoute_0 : decode cX12_copyRoute 0 = .ok (.iconst 0, 1) := dx_3 (dl_at 0 0 lb_X12_copyRoute_0 rfl)
theorem dX12_copyRoute_1 : decode cX12_copyRoute 1 = .ok (.istore_n 3, 1) := dx_62 (dl_at 0 1 lb_X12_copyRoute_0 rfl)
theorem dX12_copyRoute_2 : decode cX12_copyRoute 2 = .ok (.iload_n 3, 1) := dx_29 (dl_at 0 2 lb_X12_copyRoute_0 rfl)
theorem dX12_copyRoute_3 : decode cX12_copyRoute 3 = .ok (.iload_n 2, 1) := dx_28 (dl_at 0 3 lb_X12_copyRoute_0 rfl)
theorem dX12_copyRoute_4 : decode cX12_copyRoute 4 = .ok (.if_icmp .ge 18, 3) := dx_162 (a := 0) (b := 18) (dl_at 0 4 lb_X12_copyRoute_0 rfl) (dl_at 0 5 lb_X12_copyRoute_0 rfl) (dl_at 0 6 lb_X12_copyRoute_0 rfl) sg16_18
theorem dX12_copyRoute_22 : decode cX12_copyRoute 22 = .ok (.return_, 1) := dx_177 (dl_at 0 22 lb_X12_copyRoute_0 rfl)
theorem dX12_copyRoute_7 : decode cX12_copyRoute 7 = .ok (.aload_n 1, 1) := dx_43 (dl_at 0 7 lb_X12_copyRoute_0 rfl)
theorem dX12_copyRoute_8 : decode cX12_copyRoute 8 = .ok (.iload_n 3, 1) := dx_29 (dl_at 0 8 lb_X12_copyRoute_0 rfl)
theorem dX12_copyRoute_9 : decode cX12_copyRoute 9 = .ok (.aload_n 0, 1) := dx_42 (dl_at 0 9 lb_X12_copyRoute_0 rfl)
theorem dX12_copyRoute_10 : decode cX12_copyRoute 10 = .ok (.getfield 55, 3) := dx_180 (a := 0) (b := 55) (dl_at 0 10 lb_X12_copyRoute_0 rfl) (dl_at 0 11 lb_X12_copyRoute_0 rfl) (dl_at 0 12 lb_X12_copyRoute_0 rfl) rfl
theorem dX12_copyRoute_13 : decode cX12_copyRoute 13 = .ok (.iload_n 3, 1) := dx_29 (dl_at 0 13 lb_X12_copyRoute_0 rfl)
theorem dX12_copyRoute_14 : decode cX12_copyRoute 14 = .ok (.iaload, 1) := dx_46 (dl_at 0 14 lb_X12_copyRoute_0 rfl)
theorem dX12_copyRoute_15 : decode cX12_copyRoute 15 = .ok (.iastore, 1) := dx_79 (dl_at 0 15 lb_X12_copyRoute_0 rfl)
theorem dX12_copyRoute_16 : decode cX12_copyRoute 16 = .ok (.iinc 3 1, 3) := dx_132 (dl_at 0 16 lb_X12_copyRoute_0 rfl) (dl_at 0 17 lb_X12_copyRoute_0 rfl) (dl_at 0 18 lb_X12_copyRoute_0 rfl) sg8_1
theorem dX12_copyRoute_19 : decode cX12_copyRoute 19 = .ok (.goto (-17), 3) := dx_167 (a := 255) (b := 239) (dl_at 0 19 lb_X12_copyRoute_0 rfl) (dl_at 0 20 lb_X12_copyRoute_0 rfl) (dl_at 0 21 lb_X12_copyRoute_0 rfl) sg16_65519
theorem lb_X12_meetRoute_0 : dl_ck (cX12_meetRoute.data.toList.drop 0) [42, 89, 180, 0, 210, 4, 96, 181, 0, 210, 29, 42, 180, 0, 213, 161, 0, 19, 29, 42, 180, 0, 213, 160, 0, 30, 27, 42, 180, 0, 216, 162] = true := by decide +kernel
theorem lb_X12_meetRoute_1 : dl_ck (cX12_meetRoute.data.toList.drop 32) [0, 22, 42, 29, 181, 0, 213, 42, 27, 181, 0, 216, 42, 42, 180, 0, 58, 27, 182, 0, 219, 42, 180, 0, 223, 16, 247, 160, 0, 4, 177, 27] = true := by decide +kernel
theorem lb_X12_meetRoute_2 : dl_ck (cX12_meetRoute.data.toList.drop 64) [5, 100, 42, 42, 180, 0, 223, 16, 8, 182, 0, 161, 42, 180, 0, 145, 160, 0, 7, 4, 167, 0, 4, 3, 96, 54, 4, 29, 154, 0, 7, 3] = true := by decide +kernel
theorem lb_X12_meetRoute_3 : dl_ck (cX12_meetRoute.data.toList.drop 96) [167, 0, 17, 29, 42, 42, 180, 0, 223, 6, 182, 0, 161, 21, 4, 104, 96, 54, 5, 42, 21, 5, 42, 180, 0, 226, 162, 0, 8, 21, 5, 167] = true := by decide +kernel
theorem lb_X12_meetRoute_4 : dl_ck (cX12_meetRoute.data.toList.drop 128) [0, 7, 42, 180, 0, 226, 181, 0, 226, 42, 42, 180, 0, 223, 21, 4, 182, 0, 194, 29, 161, 0, 66, 42, 89, 180, 0, 229, 4, 96, 181, 0] = true := by decide +kernel
theorem lb_X12_meetRoute_5 : dl_ck (cX12_meetRoute.data.toList.drop 160) [229, 42, 89, 180, 0, 232, 28, 126, 181, 0, 232, 27, 42, 180, 0, 235, 161, 0, 19, 27, 42, 180, 0, 235, 160, 0, 30, 29, 42, 180, 0, 238] = true := by decide +kernel
theorem lb_X12_meetRoute_6 : dl_ck (cX12_meetRoute.data.toList.drop 192) [162, 0, 22, 42, 29, 181, 0, 238, 42, 27, 181, 0, 235, 42, 42, 180, 0, 61, 27, 182, 0, 219, 177] = true := by decide +kernel
theorem dX12_meetRoute_0 : decode cX12_meetRoute 0 = .ok (.aload_n 0, 1) := dx_42 (dl_at 0 0 lb_X12_meetRoute_0 rfl)
theorem dX12_meetRoute_1 : decode cX12_meetRoute 1 = .ok (.dup, 1) := dx_89 (dl_at 0 1 lb_X12_meetRoute_0 rfl)
theorem dX12_meetRoute_2 : decode cX12_meetRoute 2 = .ok (.getfield 210, 3) := dx_180 (a := 0) (b := 210) (dl_at 0 2 lb_X12_meetRoute_0 rfl) (dl_at 0 3 lb_X12_meetRoute_0 rfl) (dl_at 0 4 lb_X12_meetRoute_0 rfl) rfl
theorem dX12_meetRoute_5 : decode cX12_meetRoute 5 = .ok (.iconst 1, 1) := dx_4 (dl_at 0 5 lb_X12_meetRoute_0 rfl)
theorem dX12_meetRoute_6 : decode cX12_meetRoute 6 = .ok (.iadd, 1) := dx_96 (dl_at 0 6 lb_X12_meetRoute_0 rfl)
theorem dX12_meetRoute_7 : decode cX12_meetRoute 7 = .ok (.putfield 210, 3) := dx_181 (a := 0) (b := 210) (dl_at 0 7 lb_X12_meetRoute_0 rfl) (dl_at 0 8 lb_X12_meetRoute_0 rfl) (dl_at 0 9 lb_X12_meetRoute_0 rfl) rfl
theorem dX12_meetRoute_53 : decode cX12_meetRoute 53 = .ok (.aload_n 0, 1) := dx_42 (dl_at 32 21 lb_X12_meetRoute_1 rfl)
theorem dX12_meetRoute_54 : decode cX12_meetRoute 54 = .ok (.getfield 223, 3) := dx_180 (a := 0) (b := 223) (dl_at 32 22 lb_X12_meetRoute_1 rfl) (dl_at 32 23 lb_X12_meetRoute_1 rfl) (dl_at 32 24 lb_X12_meetRoute_1 rfl) rfl
theorem dX12_meetRoute_57 : decode cX12_meetRoute 57 = .ok (.bipush (-9), 2) := dx_16 (dl_at 32 25 lb_X12_meetRoute_1 rfl) (dl_at 32 26 lb_X12_meetRoute_1 rfl) sg8_247
theorem dX12_meetRoute_59 : decode cX12_meetRoute 59 = .ok (.if_icmp .ne 4, 3) := dx_160 (a := 0) (b := 4) (dl_at 32 27 lb_X12_meetRoute_1 rfl) (dl_at 32 28 lb_X12_meetRoute_1 rfl) (dl_at 32 29 lb_X12_meetRoute_1 rfl) sg16_4
theorem dX12_meetRoute_137 : decode cX12_meetRoute 137 = .ok (.aload_n 0, 1) := dx_42 (dl_at 128 9 lb_X12_meetRoute_4 rfl)
theorem dX12_meetRoute_138 : decode cX12_meetRoute 138 = .ok (.aload_n 0, 1) := dx_42 (dl_at 128 10 lb_X12_meetRoute_4 rfl)
theorem dX12_meetRoute_139 : decode cX12_meetRoute 139 = .ok (.getfield 223, 3) := dx_180 (a := 0) (b := 223) (dl_at 128 11 lb_X12_meetRoute_4 rfl) (dl_at 128 12 lb_X12_meetRoute_4 rfl) (dl_at 128 13 lb_X12_meetRoute_4 rfl) rfl
theorem dX12_meetRoute_142 : decode cX12_meetRoute 142 = .ok (.iload 4, 2) := dx_21 (dl_at 128 14 lb_X12_meetRoute_4 rfl) (dl_at 128 15 lb_X12_meetRoute_4 rfl)
theorem dX12_meetRoute_144 : decode cX12_meetRoute 144 = .ok (.invokevirtual 194, 3) := dx_182 (a := 0) (b := 194) (dl_at 128 16 lb_X12_meetRoute_4 rfl) (dl_at 128 17 lb_X12_meetRoute_4 rfl) (dl_at 128 18 lb_X12_meetRoute_4 rfl) rfl
theorem dX12_meetRoute_147 : decode cX12_meetRoute 147 = .ok (.iload_n 3, 1) := dx_29 (dl_at 128 19 lb_X12_meetRoute_4 rfl)
theorem dX12_meetRoute_148 : decode cX12_meetRoute 148 = .ok (.if_icmp .lt 66, 3) := dx_161 (a := 0) (b := 66) (dl_at 128 20 lb_X12_meetRoute_4 rfl) (dl_at 128 21 lb_X12_meetRoute_4 rfl) (dl_at 128 22 lb_X12_meetRoute_4 rfl) sg16_66
theorem dX12_meetRoute_214 : decode cX12_meetRoute 214 = .ok (.return_, 1) := dx_177 (dl_at 192 22 lb_X12_meetRoute_6 rfl)
theorem dX12_meetRoute_151 : decode cX12_meetRoute 151 = .ok (.aload_n 0, 1) := dx_42 (dl_at 128 23 lb_X12_meetRoute_4 rfl)
theorem dX12_meetRoute_152 : decode cX12_meetRoute 152 = .ok (.dup, 1) := dx_89 (dl_at 128 24 lb_X12_meetRoute_4 rfl)
theorem dX12_meetRoute_153 : decode cX12_meetRoute 153 = .ok (.getfield 229, 3) := dx_180 (a := 0) (b := 229) (dl_at 128 25 lb_X12_meetRoute_4 rfl) (dl_at 128 26 lb_X12_meetRoute_4 rfl) (dl_at 128 27 lb_X12_meetRoute_4 rfl) rfl
theorem dX12_meetRoute_156 : decode cX12_meetRoute 156 = .ok (.iconst 1, 1) := dx_4 (dl_at 128 28 lb_X12_meetRoute_4 rfl)
theorem dX12_meetRoute_157 : decode cX12_meetRoute 157 = .ok (.iadd, 1) := dx_96 (dl_at 128 29 lb_X12_meetRoute_4 rfl)
theorem dX12_meetRoute_158 : decode cX12_meetRoute 158 = .ok (.putfield 229, 3) := dx_181 (a := 0) (b := 229) (dl_at 128 30 lb_X12_meetRoute_4 rfl) (dl_at 128 31 lb_X12_meetRoute_4 rfl) (dl_at 160 0 lb_X12_meetRoute_5 rfl) rfl
theorem dX12_meetRoute_161 : decode cX12_meetRoute 161 = .ok (.aload_n 0, 1) := dx_42 (dl_at 160 1 lb_X12_meetRoute_5 rfl)
theorem dX12_meetRoute_162 : decode cX12_meetRoute 162 = .ok (.dup, 1) := dx_89 (dl_at 160 2 lb_X12_meetRoute_5 rfl)
theorem dX12_meetRoute_163 : decode cX12_meetRoute 163 = .ok (.getfield 232, 3) := dx_180 (a := 0) (b := 232) (dl_at 160 3 lb_X12_meetRoute_5 rfl) (dl_at 160 4 lb_X12_meetRoute_5 rfl) (dl_at 160 5 lb_X12_meetRoute_5 rfl) rfl
theorem dX12_meetRoute_166 : decode cX12_meetRoute 166 = .ok (.iload_n 2, 1) := dx_28 (dl_at 160 6 lb_X12_meetRoute_5 rfl)
theorem dX12_meetRoute_167 : decode cX12_meetRoute 167 = .ok (.iand, 1) := dx_126 (dl_at 160 7 lb_X12_meetRoute_5 rfl)
theorem dX12_meetRoute_168 : decode cX12_meetRoute 168 = .ok (.putfield 232, 3) := dx_181 (a := 0) (b := 232) (dl_at 160 8 lb_X12_meetRoute_5 rfl) (dl_at 160 9 lb_X12_meetRoute_5 rfl) (dl_at 160 10 lb_X12_meetRoute_5 rfl) rfl
theorem dX12_meetRoute_171 : decode cX12_meetRoute 171 = .ok (.iload_n 1, 1) := dx_27 (dl_at 160 11 lb_X12_meetRoute_5 rfl)
theorem dX12_meetRoute_172 : decode cX12_meetRoute 172 = .ok (.aload_n 0, 1) := dx_42 (dl_at 160 12 lb_X12_meetRoute_5 rfl)
theorem dX12_meetRoute_173 : decode cX12_meetRoute 173 = .ok (.getfield 235, 3) := dx_180 (a := 0) (b := 235) (dl_at 160 13 lb_X12_meetRoute_5 rfl) (dl_at 160 14 lb_X12_meetRoute_5 rfl) (dl_at 160 15 lb_X12_meetRoute_5 rfl) rfl
theorem dX12_meetRoute_176 : decode cX12_meetRoute 176 = .ok (.if_icmp .lt 19, 3) := dx_161 (a := 0) (b := 19) (dl_at 160 16 lb_X12_meetRoute_5 rfl) (dl_at 160 17 lb_X12_meetRoute_5 rfl) (dl_at 160 18 lb_X12_meetRoute_5 rfl) sg16_19
theorem dX12_meetRoute_195 : decode cX12_meetRoute 195 = .ok (.aload_n 0, 1) := dx_42 (dl_at 192 3 lb_X12_meetRoute_6 rfl)
theorem dX12_meetRoute_196 : decode cX12_meetRoute 196 = .ok (.iload_n 3, 1) := dx_29 (dl_at 192 4 lb_X12_meetRoute_6 rfl)
theorem dX12_meetRoute_197 : decode cX12_meetRoute 197 = .ok (.putfield 238, 3) := dx_181 (a := 0) (b := 238) (dl_at 192 5 lb_X12_meetRoute_6 rfl) (dl_at 192 6 lb_X12_meetRoute_6 rfl) (dl_at 192 7 lb_X12_meetRoute_6 rfl) rfl
theorem dX12_meetRoute_200 : decode cX12_meetRoute 200 = .ok (.aload_n 0, 1) := dx_42 (dl_at 192 8 lb_X12_meetRoute_6 rfl)
theorem dX12_meetRoute_201 : decode cX12_meetRoute 201 = .ok (.iload_n 1, 1) := dx_27 (dl_at 192 9 lb_X12_meetRoute_6 rfl)
theorem dX12_meetRoute_202 : decode cX12_meetRoute 202 = .ok (.putfield 235, 3) := dx_181 (a := 0) (b := 235) (dl_at 192 10 lb_X12_meetRoute_6 rfl) (dl_at 192 11 lb_X12_meetRoute_6 rfl) (dl_at 192 12 lb_X12_meetRoute_6 rfl) rfl
theorem dX12_meetRoute_205 : decode cX12_meetRoute 205 = .ok (.aload_n 0, 1) := dx_42 (dl_at 192 13 lb_X12_meetRoute_6 rfl)
theorem dX12_meetRoute_206 : decode cX12_meetRoute 206 = .ok (.aload_n 0, 1) := dx_42 (dl_at 192 14 lb_X12_meetRoute_6 rfl)
theorem dX12_meetRoute_207 : decode cX12_meetRoute 207 = .ok (.getfield 61, 3) := dx_180 (a := 0) (b := 61) (dl_at 192 15 lb_X12_meetRoute_6 rfl) (dl_at 192 16 lb_X12_meetRoute_6 rfl) (dl_at 192 17 lb_X12_meetRoute_6 rfl) rfl
theorem dX12_meetRoute_210 : decode cX12_meetRoute 210 = .ok (.iload_n 1, 1) := dx_27 (dl_at 192 18 lb_X12_meetRoute_6 rfl)
theorem dX12_meetRoute_211 : decode cX12_meetRoute 211 = .ok (.invokevirtual 219, 3) := dx_182 (a := 0) (b := 219) (dl_at 192 19 lb_X12_meetRoute_6 rfl) (dl_at 192 20 lb_X12_meetRoute_6 rfl) (dl_at 192 21 lb_X12_meetRoute_6 rfl) rfl
theorem dX12_meetRoute_179 : decode cX12_meetRoute 179 = .ok (.iload_n 1, 1) := dx_27 (dl_at 160 19 lb_X12_meetRoute_5 rfl)
theorem dX12_meetRoute_180 : decode cX12_meetRoute 180 = .ok (.aload_n 0, 1) := dx_42 (dl_at 160 20 lb_X12_meetRoute_5 rfl)
theorem dX12_meetRoute_181 : decode cX12_meetRoute 181 = .ok (.getfield 235, 3) := dx_180 (a := 0) (b := 235) (dl_at 160 21 lb_X12_meetRoute_5 rfl) (dl_at 160 22 lb_X12_meetRoute_5 rfl) (dl_at 160 23 lb_X12_meetRoute_5 rfl) rfl
theorem dX12_meetRoute_184 : decode cX12_meetRoute 184 = .ok (.if_icmp .ne 30, 3) := dx_160 (a := 0) (b := 30) (dl_at 160 24 lb_X12_meetRoute_5 rfl) (dl_at 160 25 lb_X12_meetRoute_5 rfl) (dl_at 160 26 lb_X12_meetRoute_5 rfl) sg16_30
theorem dX12_meetRoute_187 : decode cX12_meetRoute 187 = .ok (.iload_n 3, 1) := dx_29 (dl_at 160 27 lb_X12_meetRoute_5 rfl)
theorem dX12_meetRoute_188 : decode cX12_meetRoute 188 = .ok (.aload_n 0, 1) := dx_42 (dl_at 160 28 lb_X12_meetRoute_5 rfl)
theorem dX12_meetRoute_189 : decode cX12_meetRoute 189 = .ok (.getfield 238, 3) := dx_180 (a := 0) (b := 238) (dl_at 160 29 lb_X12_meetRoute_5 rfl) (dl_at 160 30 lb_X12_meetRoute_5 rfl) (dl_at 160 31 lb_X12_meetRoute_5 rfl) rfl
theorem dX12_meetRoute_192 : decode cX12_meetRoute 192 = .ok (.if_icmp .ge 22, 3) := dx_162 (a := 0) (b := 22) (dl_at 192 0 lb_X12_meetRoute_6 rfl) (dl_at 192 1 lb_X12_meetRoute_6 rfl) (dl_at 192 2 lb_X12_meetRoute_6 rfl) sg16_22
theorem dX12_meetRoute_115 : decode cX12_meetRoute 115 = .ok (.aload_n 0, 1) := dx_42 (dl_at 96 19 lb_X12_meetRoute_3 rfl)
theorem dX12_meetRoute_116 : decode cX12_meetRoute 116 = .ok (.iload 5, 2) := dx_21 (dl_at 96 20 lb_X12_meetRoute_3 rfl) (dl_at 96 21 lb_X12_meetRoute_3 rfl)
theorem dX12_meetRoute_118 : decode cX12_meetRoute 118 = .ok (.aload_n 0, 1) := dx_42 (dl_at 96 22 lb_X12_meetRoute_3 rfl)
theorem dX12_meetRoute_119 : decode cX12_meetRoute 119 = .ok (.getfield 226, 3) := dx_180 (a := 0) (b := 226) (dl_at 96 23 lb_X12_meetRoute_3 rfl) (dl_at 96 24 lb_X12_meetRoute_3 rfl) (dl_at 96 25 lb_X12_meetRoute_3 rfl) rfl
theorem dX12_meetRoute_122 : decode cX12_meetRoute 122 = .ok (.if_icmp .ge 8, 3) := dx_162 (a := 0) (b := 8) (dl_at 96 26 lb_X12_meetRoute_3 rfl) (dl_at 96 27 lb_X12_meetRoute_3 rfl) (dl_at 96 28 lb_X12_meetRoute_3 rfl) sg16_8
theorem dX12_meetRoute_130 : decode cX12_meetRoute 130 = .ok (.aload_n 0, 1) := dx_42 (dl_at 128 2 lb_X12_meetRoute_4 rfl)
theorem dX12_meetRoute_131 : decode cX12_meetRoute 131 = .ok (.getfield 226, 3) := dx_180 (a := 0) (b := 226) (dl_at 128 3 lb_X12_meetRoute_4 rfl) (dl_at 128 4 lb_X12_meetRoute_4 rfl) (dl_at 128 5 lb_X12_meetRoute_4 rfl) rfl
theorem dX12_meetRoute_134 : decode cX12_meetRoute 134 = .ok (.putfield 226, 3) := dx_181 (a := 0) (b := 226) (dl_at 128 6 lb_X12_meetRoute_4 rfl) (dl_at 128 7 lb_X12_meetRoute_4 rfl) (dl_at 128 8 lb_X12_meetRoute_4 rfl) rfl
theorem dX12_meetRoute_125 : decode cX12_meetRoute 125 = .ok (.iload 5, 2) := dx_21 (dl_at 96 29 lb_X12_meetRoute_3 rfl) (dl_at 96 30 lb_X12_meetRoute_3 rfl)
theorem dX12_meetRoute_127 : decode cX12_meetRoute 127 = .ok (.goto 7, 3) := dx_167 (a := 0) (b := 7) (dl_at 96 31 lb_X12_meetRoute_3 rfl) (dl_at 128 0 lb_X12_meetRoute_4 rfl) (dl_at 128 1 lb_X12_meetRoute_4 rfl) sg16_7
theorem dX12_meetRoute_91 : decode cX12_meetRoute 91 = .ok (.iload_n 3, 1) := dx_29 (dl_at 64 27 lb_X12_meetRoute_2 rfl)
theorem dX12_meetRoute_92 : decode cX12_meetRoute 92 = .ok (.ifCond .ne 7, 3) := dx_154 (a := 0) (b := 7) (dl_at 64 28 lb_X12_meetRoute_2 rfl) (dl_at 64 29 lb_X12_meetRoute_2 rfl) (dl_at 64 30 lb_X12_meetRoute_2 rfl) sg16_7
theorem dX12_meetRoute_99 : decode cX12_meetRoute 99 = .ok (.iload_n 3, 1) := dx_29 (dl_at 96 3 lb_X12_meetRoute_3 rfl)
theorem dX12_meetRoute_100 : decode cX12_meetRoute 100 = .ok (.aload_n 0, 1) := dx_42 (dl_at 96 4 lb_X12_meetRoute_3 rfl)
theorem dX12_meetRoute_101 : decode cX12_meetRoute 101 = .ok (.aload_n 0, 1) := dx_42 (dl_at 96 5 lb_X12_meetRoute_3 rfl)
theorem dX12_meetRoute_102 : decode cX12_meetRoute 102 = .ok (.getfield 223, 3) := dx_180 (a := 0) (b := 223) (dl_at 96 6 lb_X12_meetRoute_3 rfl) (dl_at 96 7 lb_X12_meetRoute_3 rfl) (dl_at 96 8 lb_X12_meetRoute_3 rfl) rfl
theorem dX12_meetRoute_105 : decode cX12_meetRoute 105 = .ok (.iconst 3, 1) := dx_6 (dl_at 96 9 lb_X12_meetRoute_3 rfl)
theorem dX12_meetRoute_106 : decode cX12_meetRoute 106 = .ok (.invokevirtual 161, 3) := dx_182 (a := 0) (b := 161) (dl_at 96 10 lb_X12_meetRoute_3 rfl) (dl_at 96 11 lb_X12_meetRoute_3 rfl) (dl_at 96 12 lb_X12_meetRoute_3 rfl) rfl
theorem dX12_meetRoute_109 : decode cX12_meetRoute 109 = .ok (.iload 4, 2) := dx_21 (dl_at 96 13 lb_X12_meetRoute_3 rfl) (dl_at 96 14 lb_X12_meetRoute_3 rfl)
theorem dX12_meetRoute_111 : decode cX12_meetRoute 111 = .ok (.imul, 1) := dx_104 (dl_at 96 15 lb_X12_meetRoute_3 rfl)
theorem dX12_meetRoute_112 : decode cX12_meetRoute 112 = .ok (.iadd, 1) := dx_96 (dl_at 96 16 lb_X12_meetRoute_3 rfl)
theorem dX12_meetRoute_113 : decode cX12_meetRoute 113 = .ok (.istore 5, 2) := dx_54 (dl_at 96 17 lb_X12_meetRoute_3 rfl) (dl_at 96 18 lb_X12_meetRoute_3 rfl)
theorem dX12_meetRoute_95 : decode cX12_meetRoute 95 = .ok (.iconst 0, 1) := dx_3 (dl_at 64 31 lb_X12_meetRoute_2 rfl)
theorem dX12_meetRoute_96 : decode cX12_meetRoute 96 = .ok (.goto 17, 3) := dx_167 (a := 0) (b := 17) (dl_at 96 0 lb_X12_meetRoute_3 rfl) (dl_at 96 1 lb_X12_meetRoute_3 rfl) (dl_at 96 2 lb_X12_meetRoute_3 rfl) sg16_17
theorem dX12_meetRoute_63 : decode cX12_meetRoute 63 = .ok (.iload_n 1, 1) := dx_27 (dl_at 32 31 lb_X12_meetRoute_1 rfl)
theorem dX12_meetRoute_64 : decode cX12_meetRoute 64 = .ok (.iconst 2, 1) := dx_5 (dl_at 64 0 lb_X12_meetRoute_2 rfl)
theorem dX12_meetRoute_65 : decode cX12_meetRoute 65 = .ok (.isub, 1) := dx_100 (dl_at 64 1 lb_X12_meetRoute_2 rfl)
theorem dX12_meetRoute_66 : decode cX12_meetRoute 66 = .ok (.aload_n 0, 1) := dx_42 (dl_at 64 2 lb_X12_meetRoute_2 rfl)
theorem dX12_meetRoute_67 : decode cX12_meetRoute 67 = .ok (.aload_n 0, 1) := dx_42 (dl_at 64 3 lb_X12_meetRoute_2 rfl)
theorem dX12_meetRoute_68 : decode cX12_meetRoute 68 = .ok (.getfield 223, 3) := dx_180 (a := 0) (b := 223) (dl_at 64 4 lb_X12_meetRoute_2 rfl) (dl_at 64 5 lb_X12_meetRoute_2 rfl) (dl_at 64 6 lb_X12_meetRoute_2 rfl) rfl
theorem dX12_meetRoute_71 : decode cX12_meetRoute 71 = .ok (.bipush 8, 2) := dx_16 (dl_at 64 7 lb_X12_meetRoute_2 rfl) (dl_at 64 8 lb_X12_meetRoute_2 rfl) sg8_8
theorem dX12_meetRoute_73 : decode cX12_meetRoute 73 = .ok (.invokevirtual 161, 3) := dx_182 (a := 0) (b := 161) (dl_at 64 9 lb_X12_meetRoute_2 rfl) (dl_at 64 10 lb_X12_meetRoute_2 rfl) (dl_at 64 11 lb_X12_meetRoute_2 rfl) rfl
theorem dX12_meetRoute_76 : decode cX12_meetRoute 76 = .ok (.aload_n 0, 1) := dx_42 (dl_at 64 12 lb_X12_meetRoute_2 rfl)
theorem dX12_meetRoute_77 : decode cX12_meetRoute 77 = .ok (.getfield 145, 3) := dx_180 (a := 0) (b := 145) (dl_at 64 13 lb_X12_meetRoute_2 rfl) (dl_at 64 14 lb_X12_meetRoute_2 rfl) (dl_at 64 15 lb_X12_meetRoute_2 rfl) rfl
theorem dX12_meetRoute_80 : decode cX12_meetRoute 80 = .ok (.if_icmp .ne 7, 3) := dx_160 (a := 0) (b := 7) (dl_at 64 16 lb_X12_meetRoute_2 rfl) (dl_at 64 17 lb_X12_meetRoute_2 rfl) (dl_at 64 18 lb_X12_meetRoute_2 rfl) sg16_7
theorem dX12_meetRoute_87 : decode cX12_meetRoute 87 = .ok (.iconst 0, 1) := dx_3 (dl_at 64 23 lb_X12_meetRoute_2 rfl)
theorem dX12_meetRoute_88 : decode cX12_meetRoute 88 = .ok (.iadd, 1) := dx_96 (dl_at 64 24 lb_X12_meetRoute_2 rfl)
theorem dX12_meetRoute_89 : decode cX12_meetRoute 89 = .ok (.istore 4, 2) := dx_54 (dl_at 64 25 lb_X12_meetRoute_2 rfl) (dl_at 64 26 lb_X12_meetRoute_2 rfl)
theorem dX12_meetRoute_83 : decode cX12_meetRoute 83 = .ok (.iconst 1, 1) := dx_4 (dl_at 64 19 lb_X12_meetRoute_2 rfl)
theorem dX12_meetRoute_84 : decode cX12_meetRoute 84 = .ok (.goto 4, 3) := dx_167 (a := 0) (b := 4) (dl_at 64 20 lb_X12_meetRoute_2 rfl) (dl_at 64 21 lb_X12_meetRoute_2 rfl) (dl_at 64 22 lb_X12_meetRoute_2 rfl) sg16_4
theorem dX12_meetRoute_62 : decode cX12_meetRoute 62 = .ok (.return_, 1) := dx_177 (dl_at 32 30 lb_X12_meetRoute_1 rfl)
theorem dX12_meetRoute_10 : decode cX12_meetRoute 10 = .ok (.iload_n 3, 1) := dx_29 (dl_at 0 10 lb_X12_meetRoute_0 rfl)
theorem dX12_meetRoute_11 : decode cX12_meetRoute 11 = .ok (.aload_n 0, 1) := dx_42 (dl_at 0 11 lb_X12_meetRoute_0 rfl)
theorem dX12_meetRoute_12 : decode cX12_meetRoute 12 = .ok (.getfield 213, 3) := dx_180 (a := 0) (b := 213) (dl_at 0 12 lb_X12_meetRoute_0 rfl) (dl_at 0 13 lb_X12_meetRoute_0 rfl) (dl_at 0 14 lb_X12_meetRoute_0 rfl) rfl
theorem dX12_meetRoute_15 : decode cX12_meetRoute 15 = .ok (.if_icmp .lt 19, 3) := dx_161 (a := 0) (b := 19) (dl_at 0 15 lb_X12_meetRoute_0 rfl) (dl_at 0 16 lb_X12_meetRoute_0 rfl) (dl_at 0 17 lb_X12_meetRoute_0 rfl) sg16_19
theorem dX12_meetRoute_34 : decode cX12_meetRoute 34 = .ok (.aload_n 0, 1) := dx_42 (dl_at 32 2 lb_X12_meetRoute_1 rfl)
theorem dX12_meetRoute_35 : decode cX12_meetRoute 35 = .ok (.iload_n 3, 1) := dx_29 (dl_at 32 3 lb_X12_meetRoute_1 rfl)
theorem dX12_meetRoute_36 : decode cX12_meetRoute 36 = .ok (.putfield 213, 3) := dx_181 (a := 0) (b := 213) (dl_at 32 4 lb_X12_meetRoute_1 rfl) (dl_at 32 5 lb_X12_meetRoute_1 rfl) (dl_at 32 6 lb_X12_meetRoute_1 rfl) rfl
theorem dX12_meetRoute_39 : decode cX12_meetRoute 39 = .ok (.aload_n 0, 1) := dx_42 (dl_at 32 7 lb_X12_meetRoute_1 rfl)
theorem dX12_meetRoute_40 : decode cX12_meetRoute 40 = .ok (.iload_n 1, 1) := dx_27 (dl_at 32 8 lb_X12_meetRoute_1 rfl)
theorem dX12_meetRoute_41 : decode cX12_meetRoute 41 = .ok (.putfield 216, 3) := dx_181 (a := 0) (b := 216) (dl_at 32 9 lb_X12_meetRoute_1 rfl) (dl_at 32 10 lb_X12_meetRoute_1 rfl) (dl_at 32 11 lb_X12_meetRoute_1 rfl) rfl
theorem dX12_meetRoute_44 : decode cX12_meetRoute 44 = .ok (.aload_n 0, 1) := dx_42 (dl_at 32 12 lb_X12_meetRoute_1 rfl)
theorem dX12_meetRoute_45 : decode cX12_meetRoute 45 = .ok (.aload_n 0, 1) := dx_42 (dl_at 32 13 lb_X12_meetRoute_1 rfl)
theorem dX12_meetRoute_46 : decode cX12_meetRoute 46 = .ok (.getfield 58, 3) := dx_180 (a := 0) (b := 58) (dl_at 32 14 lb_X12_meetRoute_1 rfl) (dl_at 32 15 lb_X12_meetRoute_1 rfl) (dl_at 32 16 lb_X12_meetRoute_1 rfl) rfl
theorem dX12_meetRoute_49 : decode cX12_meetRoute 49 = .ok (.iload_n 1, 1) := dx_27 (dl_at 32 17 lb_X12_meetRoute_1 rfl)
theorem dX12_meetRoute_50 : decode cX12_meetRoute 50 = .ok (.invokevirtual 219, 3) := dx_182 (a := 0) (b := 219) (dl_at 32 18 lb_X12_meetRoute_1 rfl) (dl_at 32 19 lb_X12_meetRoute_1 rfl) (dl_at 32 20 lb_X12_meetRoute_1 rfl) rfl
theorem dX12_meetRoute_18 : decode cX12_meetRoute 18 = .ok (.iload_n 3, 1) := dx_29 (dl_at 0 18 lb_X12_meetRoute_0 rfl)
theorem dX12_meetRoute_19 : decode cX12_meetRoute 19 = .ok (.aload_n 0, 1) := dx_42 (dl_at 0 19 lb_X12_meetRoute_0 rfl)
theorem dX12_meetRoute_20 : decode cX12_meetRoute 20 = .ok (.getfield 213, 3) := dx_180 (a := 0) (b := 213) (dl_at 0 20 lb_X12_meetRoute_0 rfl) (dl_at 0 21 lb_X12_meetRoute_0 rfl) (dl_at 0 22 lb_X12_meetRoute_0 rfl) rfl
theorem dX12_meetRoute_23 : decode cX12_meetRoute 23 = .ok (.if_icmp .ne 30, 3) := dx_160 (a := 0) (b := 30) (dl_at 0 23 lb_X12_meetRoute_0 rfl) (dl_at 0 24 lb_X12_meetRoute_0 rfl) (dl_at 0 25 lb_X12_meetRoute_0 rfl) sg16_30
theorem dX12_meetRoute_26 : decode cX12_meetRoute 26 = .ok (.iload_n 1, 1) := dx_27 (dl_at 0 26 lb_X12_meetRoute_0 rfl)
theorem dX12_meetRoute_27 : decode cX12_meetRoute 27 = .ok (.aload_n 0, 1) := dx_42 (dl_at 0 27 lb_X12_meetRoute_0 rfl)
theorem dX12_meetRoute_28 : decode cX12_meetRoute 28 = .ok (.getfield 216, 3) := dx_180 (a := 0) (b := 216) (dl_at 0 28 lb_X12_meetRoute_0 rfl) (dl_at 0 29 lb_X12_meetRoute_0 rfl) (dl_at 0 30 lb_X12_meetRoute_0 rfl) rfl
theorem dX12_meetRoute_31 : decode cX12_meetRoute 31 = .ok (.if_icmp .ge 22, 3) := dx_162 (a := 0) (b := 22) (dl_at 0 31 lb_X12_meetRoute_0 rfl) (dl_at 32 0 lb_X12_meetRoute_1 rfl) (dl_at 32 1 lb_X12_meetRoute_1 rfl) sg16_22
