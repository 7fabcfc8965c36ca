def L_sm_copyRoute17_2_0 (vn : Int32) : Nat → (Int32) → (Nat → Nat → Int32) → Nat → Nat → Int32
  | 0, v3_2, nu2_ => nu2_
  | n + 1, v3_2, nu2_ =>
    if v3_2 ≥ vn then (
      nu2_
    ) else (
      LETV (nu2_ 16 v3_2.toNatClampNeg : Int32) fun y2 =>
      LETV (va_up nu2_ 17 (upd (nu2_ 17) v3_2.toNatClampNeg y2) : Nat → Nat → Int32) fun nu3 =>
      LETV ((v3_2 + 1) : Int32) fun w7 =>
      L_sm_copyRoute17_2_0 vn n (w7 : Int32) nu3
    )
def F_sm_copyRoute17 (mu : Nat → Nat → Int32) (vn : Int32) : Nat → Nat → Int32 :=
  L_sm_copyRoute17_2_0 vn 10 (0 : Int32) mu
def L_sm_copyRoute18_2_0 (vn : Int32) : Nat → (Int32) → (Nat → Nat → Int32) → Nat → Nat → Int32
  | 0, v3_2, nu2_ => nu2_
  | n + 1, v3_2, nu2_ =>
    if v3_2 ≥ vn then (
      nu2_
    ) else (
      LETV (nu2_ 16 v3_2.toNatClampNeg : Int32) fun y2 =>
      LETV (va_up nu2_ 18 (upd (nu2_ 18) v3_2.toNatClampNeg y2) : Nat → Nat → Int32) fun nu3 =>
      LETV ((v3_2 + 1) : Int32) fun w7 =>
      L_sm_copyRoute18_2_0 vn n (w7 : Int32) nu3
    )
def F_sm_copyRoute18 (mu : Nat → Nat → Int32) (vn : Int32) : Nat → Nat → Int32 :=
  L_sm_copyRoute18_2_0 vn 10 (0 : Int32) mu
def F_sm_meetRoute (mu : Nat → Nat → Int32) (vn : Int32) (vs : Int32) (vp : Int32) : Nat → Nat → Int32 :=
  LETV (mu 0 39 : Int32) fun y1 =>
  LETV (mu 0 33 : Int32) fun y2 =>
  LETV (mu 0 35 : Int32) fun y3 =>
  LETV (mu 0 30 : Int32) fun y4 =>
  LETV (y4 + 1 : Int32) fun t5 =>
  LETV (va_up mu 0 (upd (mu 0) 30 t5) : Nat → Nat → Int32) fun nu6 =>
  LETV (fun (nj53_10 : Nat → Nat → Int32) =>
    LETV (nj53_10 0 39 : Int32) fun y12 =>
    LETV (nj53_10 0 33 : Int32) fun y13 =>
    LETV (nj53_10 0 35 : Int32) fun y14 =>
    if y12 = ((-9) : Int32) then (
      nj53_10
    ) else (
      LETV (fun (j4_91_63 : Int32) (nj91_63 : Nat → Nat → Int32) =>
        LETV (nj91_63 0 39 : Int32) fun y16 =>
        LETV (nj91_63 0 33 : Int32) fun y17 =>
        LETV (nj91_63 0 35 : Int32) fun y18 =>
        LETV (fun (j5_115_91 : Int32) (nj115_91 : Nat → Nat → Int32) =>
          LETV (nj115_91 0 39 : Int32) fun y19 =>
          LETV (nj115_91 0 33 : Int32) fun y20 =>
          LETV (nj115_91 0 35 : Int32) fun y21 =>
          LETV (fun (nj137_115 : Nat → Nat → Int32) =>
            LETV (nj137_115 0 39 : Int32) fun y22 =>
            LETV (nj137_115 0 33 : Int32) fun y23 =>
            LETV (nj137_115 0 35 : Int32) fun y24 =>
            LETV (F_sm_worthIn nj137_115 (y22 : Int32) (j4_91_63 : Int32) : Int32) fun r25 =>
            if r25 < vp then (
              nj137_115
            ) else (
              LETV (y23 + 1 : Int32) fun t30 =>
              LETV (va_up nj137_115 0 (upd (nj137_115 0) 33 t30) : Nat → Nat → Int32) fun nu31 =>
              LETV (nu31 0 36 : Int32) fun y36 =>
              LETV (y36 &&& vs : Int32) fun t37 =>
              LETV (va_up nu31 0 (upd (nu31 0) 36 t37) : Nat → Nat → Int32) fun nu38 =>
              if vn < y24 then (
                LETV (va_up nu38 0 (upd (nu38 0) 34 vp) : Nat → Nat → Int32) fun nu45 =>
                LETV (va_up nu45 0 (upd (nu45 0) 35 vn) : Nat → Nat → Int32) fun nu52 =>
                LETV (F_sm_copyRoute18 nu52 (vn : Int32) : Nat → Nat → Int32) fun xi59 =>
                xi59
              ) else (
                if vn = y24 then (
                  LETV (nu38 0 34 : Int32) fun y73 =>
                  if vp ≥ y73 then (
                    nu38
                  ) else (
                    LETV (va_up nu38 0 (upd (nu38 0) 34 vp) : Nat → Nat → Int32) fun nu78 =>
                    LETV (va_up nu78 0 (upd (nu78 0) 35 vn) : Nat → Nat → Int32) fun nu85 =>
                    LETV (F_sm_copyRoute18 nu85 (vn : Int32) : Nat → Nat → Int32) fun xi92 =>
                    xi92
                  )
                ) else (
                  nu38
                )
              )
            )) fun jk137_115 =>
          LETV (nj115_91 0 37 : Int32) fun y102 =>
          if j5_115_91 ≥ y102 then (
            LETV (va_up nj115_91 0 (upd (nj115_91 0) 37 y102) : Nat → Nat → Int32) fun nu104 =>
            jk137_115 (nu104 : Nat → Nat → Int32)
          ) else (
            LETV (va_up nj115_91 0 (upd (nj115_91 0) 37 j5_115_91) : Nat → Nat → Int32) fun nu114 =>
            jk137_115 (nu114 : Nat → Nat → Int32)
          )) fun jk115_91 =>
        if vp = (0 : Int32) then (
          jk115_91 (0 : Int32) (nj91_63 : Nat → Nat → Int32)
        ) else (
          LETV (F_sm_letterOf nj91_63 (y16 : Int32) (3 : Int32) : Int32) fun r125 =>
          LETV (r125 * j4_91_63 : Int32) fun t126 =>
          LETV (vp + t126 : Int32) fun t127 =>
          jk115_91 (t127 : Int32) (nj91_63 : Nat → Nat → Int32)
        )) fun jk91_63 =>
      LETV (vn - 2 : Int32) fun t136 =>
      LETV (F_sm_letterOf nj53_10 (y12 : Int32) (8 : Int32) : Int32) fun r137 =>
      LETV (nj53_10 0 14 : Int32) fun y138 =>
      if r137 = y138 then (
        LETV (t136 + 1 : Int32) fun t145 =>
        jk91_63 (t145 : Int32) (nj53_10 : Nat → Nat → Int32)
      ) else (
        LETV (t136 + 0 : Int32) fun t140 =>
        jk91_63 (t140 : Int32) (nj53_10 : Nat → Nat → Int32)
      )
    )) fun jk53_10 =>
  LETV (nu6 0 31 : Int32) fun y153 =>
  if vp < y153 then (
    LETV (va_up nu6 0 (upd (nu6 0) 31 vp) : Nat → Nat → Int32) fun nu155 =>
    LETV (va_up nu155 0 (upd (nu155 0) 32 vn) : Nat → Nat → Int32) fun nu162 =>
    LETV (F_sm_copyRoute17 nu162 (vn : Int32) : Nat → Nat → Int32) fun xi170 =>
    jk53_10 (xi170 : Nat → Nat → Int32)
  ) else (
    if vp = y153 then (
      LETV (nu6 0 32 : Int32) fun y185 =>
      if vn ≥ y185 then (
        jk53_10 (nu6 : Nat → Nat → Int32)
      ) else (
        LETV (va_up nu6 0 (upd (nu6 0) 31 vp) : Nat → Nat → Int32) fun nu190 =>
        LETV (va_up nu190 0 (upd (nu190 0) 32 vn) : Nat → Nat → Int32) fun nu198 =>
        LETV (F_sm_copyRoute17 nu198 (vn : Int32) : Nat → Nat → Int32) fun xi206 =>
        jk53_10 (xi206 : Nat → Nat → Int32)
      )
    ) else (
      jk53_10 (nu6 : Nat → Nat → Int32)
    )
  )
set_option maxHeartbeats 4000000 in
set_option maxRecDepth 100000 in
/-- sm_copyRoute17 -/
theorem sm_copyRoute17 (l : Launch) (dC : Nat → ClassId) (dI : Nat → Nat → Nat) (cs : Nat → ClassId) (ad : Nat → Nat) (mu : Nat → Nat → Int32) (ok : okR loM hiM mu) (H : Heap) (hP : va_P (dC, dI) vwCl (wR 21 ad (EM cs ad) mu) H) (hD0 : va_D (fun _ => True) (wR 21 ad (EM cs ad) mu)) (vn : Int32) (hin0 : 0 ≤ vn.toInt ∧ vn.toInt ≤ 7) : Met l yX12_copyRoute (wU yX12_copyRoute cX12_copyRoute 4 none) ({ frames := 0, cells := 0, slots := 0, locals := 0 }) (va_Pc [.ref (ad 0), .ref (ad 17), .int vn] (sz_P (dC, dI) vwCl (tyM cs) H)) (va_Qv (fun (xi : Nat → Nat → Int32) => xi = F_sm_copyRoute17 mu vn ∧ okR loM hiM xi ∧ (True) ∧ (∀ k : Nat, 0 ≤ k → k < 17 → xi k = mu k) ∧ (∀ k f : Nat, Nat.testBit 510 (gpM k f) = true → xi k f = mu k f)) (fun xi t => va_P (dC, dI) vwCl (wR 21 ad (EM cs ad) xi) t.heap) (va_A (wR 21 ad (EM cs ad) mu) H.size)) 0 0 (va_A (wR 21 ad (EM cs ad) mu) H.size) := by
  refine Met.ofW (cc := cX12_copyRoute) (maxL := 4) (ret := none) (by decide) rfl ?_
  intro p e s m args below meth c s₁ B hml hv
  obtain ⟨rfl, hh, hK, hz⟩ := hv
  have hx := B.exec
  have hb := B.bytes
  have hr := B.returns
  have hts := atoms_spec (ws := (wU yX12_copyRoute cX12_copyRoute 4 none)) B.pre
  have hown : s.vm.findClass RX12 = some m.cls := findClass_of_methodNamed B.named
  have hlocks := B.notSynchronized
  subst hh
  have hD := hD0.self (sz := s.heap.size)
  have hA : ∀ q : Nat, s.heap.size ≤ q → (va_A (wR 21 ad (EM cs ad) mu) s.heap.size) q := fun q h => Or.inr h
  have hS : va_S (va_A (wR 21 ad (EM cs ad) mu) s.heap.size) s.heap s.heap [] := va_S.rf
  have hl := lv_entry ([.ref (ad 0), .ref (ad 17), .int vn]) (n := 4) (Nat.le_of_ble_eq_true rfl)
  rw [lg_entry_eq]
  generalize (lg_sl ([.ref (ad 0), .ref (ad 17), .int vn]) ++ List.replicate (4 - (lg_sl ([.ref (ad 0), .ref (ad 17), .int vn])).length) Slot.unset).toArray = ls at hl ⊢
  have hl : lv_has ls 4 [(0, .ref (ad 0)), (1, .ref (ad 17)), (2, .int vn)] := hl
  obtain ⟨fz, hfz⟩ : ∃ z, F_sm_copyRoute17 mu vn = z := ⟨_, rfl⟩
  have hF := hfz
  unfold F_sm_copyRoute17 at hF
  refine lv_iconst (v := 0) hx hb dX12_copyRoute_0 (by decide) ?_
  refine lv_istore_n (lv' := [(3, .int 0), (0, .ref (ad 0)), (1, .ref (ad 17)), (2, .int vn)]) hx hb dX12_copyRoute_1 rfl hl (by decide) rfl (fun ls hl => ?_)
  have loop2 : ∀ (n2 : Nat) (v3_2 : Int32) (nu2_ : Nat → Nat → Int32) (H : Heap) (locs : List Loc) (ls : Array Slot), (7 + 1 - v3_2.toInt).toNat < n2 → (0 ≤ v3_2.toInt ∧ v3_2.toInt ≤ 7) → okR loM hiM nu2_ → va_P (dC, dI) vwCl (wR 21 ad (EM cs ad) nu2_) H → (∀ k : Nat, 0 ≤ k → k < 17 → nu2_ k = mu k) → (∀ k f : Nat, Nat.testBit 510 (gpM k f) = true → nu2_ k f = mu k f) → L_sm_copyRoute17_2_0 vn n2 v3_2 nu2_ = fz → va_S (va_A (wR 21 ad (EM cs ad) mu) s.heap.size) s.heap H locs → lv_has ls 4 [(3, .int v3_2), (0, .ref (ad 0)), (1, .ref (ad 17)), (2, .int vn)] → W p l e (headSpec (wU yX12_copyRoute cX12_copyRoute 4 none) ({ frames := 0, cells := 0, slots := 0, locals := 0 })).room s m ([.ref (ad 0), .ref (ad 17), .int vn] : List Value).toArray below meth c H locs 0 0 (MQ below (va_Qv (fun (xi : Nat → Nat → Int32) => xi = F_sm_copyRoute17 mu vn ∧ okR loM hiM xi ∧ (True) ∧ (∀ k : Nat, 0 ≤ k → k < 17 → xi k = mu k) ∧ (∀ k f : Nat, Nat.testBit 510 (gpM k f) = true → xi k f = mu k f)) (fun xi t => va_P (dC, dI) vwCl (wR 21 ad (EM cs ad) xi) t.heap) (va_A (wR 21 ad (EM cs ad) mu) s.heap.size)) ([.ref (ad 0), .ref (ad 17), .int vn] : List Value).toArray s 0 0 (va_A (wR 21 ad (EM cs ad) mu) s.heap.size)) (F0 m 2 ls []) := by
    intro n2
    induction n2 with
    | zero => intro v3_2 nu2_ H locs ls hm; exact absurd hm (Nat.not_lt_zero _)
    | succ n2 ih2 =>
      intro v3_2 nu2_ H locs ls hm_2 h_v3_2 ok hP kq2_0 kq2_1 hF hS hl
      rw [L_sm_copyRoute17_2_0] at hF
      refine lv_iload_n hx hb dX12_copyRoute_2 rfl (lv_at hl 0 rfl) ?_
      refine lv_iload_n hx hb dX12_copyRoute_3 rfl (lv_at hl 3 rfl) ?_
      refine lv_icmp_ge (tgt := 22) hx hb dX12_copyRoute_4 (by decide) (fun c_1 => ?_) (fun c_1 => ?_)
      · have hF := (if_pos c_1).symm.trans hF
        have c_1 : vn.toInt ≤ v3_2.toInt := il_le c_1
        exact W.vret hx hb hr (fun t ht hW => ⟨⟨nu2_, rfl, ⟨hF.trans hfz.symm, ok, trivial, kq2_0, kq2_1⟩, by first | (subst ht; exact hP) | (rw [ht]; exact hP) | (show va_P (dC, dI) vwCl (wR 21 ad (EM cs ad) nu2_) t.heap; rw [ht]; exact hP)⟩, hS.F ht⟩) hS.2.2 dX12_copyRoute_22
      · have hF := (if_neg c_1).symm.trans hF
        have c_1 : v3_2.toInt < vn.toInt := il_nle c_1
        refine lv_aload_n hx hb dX12_copyRoute_7 rfl (lv_at hl 2 rfl) ?_
        refine lv_iload_n hx hb dX12_copyRoute_8 rfl (lv_at hl 0 rfl) ?_
        refine lv_aload_n hx hb dX12_copyRoute_9 rfl (lv_at hl 1 rfl) ?_
        refine va_get (D := (dC, dI)) (ci := 12) (v := .ref (ad 16)) (C := RX12) (T := TX12) (N := 46) hx hb hts inG12 hown hK hP 0 (gM_0 cs ad nu2_) rfl 26 (by decide) (hts _ (List.mem_cons_of_mem _ mw_5_67)) (fun _ h9 => h9) rfl dX12_copyRoute_10 ?_
        refine lv_iload_n hx hb dX12_copyRoute_13 rfl (lv_at hl 0 rfl) ?_
        refine va_iald hx hb hK hP 16 0 (gM_16 cs ad nu2_) rfl (show vp_in v3_2 7 from vi_of (by omega) (by omega)) dX12_copyRoute_14 ?_
        refine lv_topi (fun y2 ey2 => ?_)
        have hF := mi_let hF ey2
        have by2 : y2.toInt = (nu2_ 16 v3_2.toNatClampNeg).toInt := congrArg Int32.toInt ey2
        have gy2 : 0 ≤ y2.toInt ∧ y2.toInt ≤ 6 := by rw [ey2]; exact rM_16_s ok v3_2.toNatClampNeg
        refine va_iast hx hb hK hP (wR_D nu2_ hD) hS 17 0 (gM_17 cs ad nu2_) rfl (show vp_in v3_2 7 from vi_of (by omega) (by omega)) dX12_copyRoute_15 (fun H locs hP _ hS => ?_)
        refine wr_gen (upd (nu2_ 17) v3_2.toNatClampNeg y2) hP (rfl) (fun nu3 hn3 hP => ?_)
        have hF := mi_let hF hn3.symm
        have ok := tM_17_s ok v3_2.toNatClampNeg hn3
        have ez4 : y2 = nu3 16 v3_2.toNatClampNeg := ey2.trans (congrFun (up_k hn3 (by decide)) v3_2.toNatClampNeg).symm
        have kp5 : ∀ k : Nat, 0 ≤ k → k < 17 → nu3 k = mu k := fun k h1 h2 => (up_k hn3 (ne_hi (by decide) h2).symm).trans (kq2_0 k h1 h2)
        have kp6 : (∀ k f : Nat, Nat.testBit 510 (gpM k f) = true → nu3 k f = mu k f) := kp_c 0 hn3 (fun _ => rfl) (by decide) kq2_1
        refine lv_iinc (v := (v3_2 + 1)) (lv' := [(3, .int (v3_2 + 1)), (0, .ref (ad 0)), (1, .ref (ad 17)), (2, .int vn)]) hx hb dX12_copyRoute_16 hl (k := 0) rfl rfl (by decide) rfl (fun ls hl => ?_)
        refine loc_gen (P := fun w9 => lv_has ls 4 [(3, .int w9), (0, .ref (ad 0)), (1, .ref (ad 17)), (2, .int vn)]) (v3_2 + 1) hl (fun w7 hw7 hl => ?_)
        have hl : lv_has ls 4 [(3, .int w7), (0, .ref (ad 0)), (1, .ref (ad 17)), (2, .int vn)] := hl
        have hF := mi_let hF hw7.symm
        have aw7 : w7.toInt = v3_2.toInt + 1 := by rw [← hw7]; first | exact va1 (Int.lt_of_le_of_lt h_v3_2.2 (by decide)) | exact va1 (by omega)
        refine lv_goto (tgt := 2) hx hb dX12_copyRoute_19 (by decide) ?_
        exact ih2 (w7) nu3 _ _ _ (by first | exact ms_up hm_2 aw7 h_v3_2.2 | exact ms_lt hm_2 (by omega) (by omega) | omega) (by first | exact rg_up aw7 h_v3_2 (by omega) | omega)  ok hP  kp5 kp6 hF hS (lv_sub hl [0, 1, 2, 3] rfl)
  exact loop2 10 (0) mu _ _ _ (by have h80 : (0 : Int32).toInt = 0 := rfl; omega) (by have h80 : (0 : Int32).toInt = 0 := rfl; exact ⟨by omega, by omega⟩)  ok hP  (fun _ _ _ => rfl) (fun _ _ _ => rfl) hF hS hl
set_option maxHeartbeats 4000000 in
set_option maxRecDepth 100000 in
/-- sm_copyRoute18 -/
theorem sm_copyRoute18 (l : Launch) (dC : Nat → ClassId) (dI : Nat → Nat → Nat) (cs : Nat → ClassId) (ad : Nat → Nat) (mu : Nat → Nat → Int32) (ok : okR loM hiM mu) (H : Heap) (hP : va_P (dC, dI) vwCl (wR 21 ad (EM cs ad) mu) H) (hD0 : va_D (fun _ => True) (wR 21 ad (EM cs ad) mu)) (vn : Int32) (hin0 : 0 ≤ vn.toInt ∧ vn.toInt ≤ 7) : Met l yX12_copyRoute (wU yX12_copyRoute cX12_copyRoute 4 none) ({ frames := 0, cells := 0, slots := 0, locals := 0 }) (va_Pc [.ref (ad 0), .ref (ad 18), .int vn] (sz_P (dC, dI) vwCl (tyM cs) H)) (va_Qv (fun (xi : Nat → Nat → Int32) => xi = F_sm_copyRoute18 mu vn ∧ okR loM hiM xi ∧ (True) ∧ (∀ k : Nat, 0 ≤ k → k < 17 → xi k = mu k) ∧ (∀ k f : Nat, Nat.testBit 510 (gpM k f) = true → xi k f = mu k f)) (fun xi t => va_P (dC, dI) vwCl (wR 21 ad (EM cs ad) xi) t.heap) (va_A (wR 21 ad (EM cs ad) mu) H.size)) 0 0 (va_A (wR 21 ad (EM cs ad) mu) H.size) := by
  refine Met.ofW (cc := cX12_copyRoute) (maxL := 4) (ret := none) (by decide) rfl ?_
  intro p e s m args below meth c s₁ B hml hv
  obtain ⟨rfl, hh, hK, hz⟩ := hv
  have hx := B.exec
  have hb := B.bytes
  have hr := B.returns
  have hts := atoms_spec (ws := (wU yX12_copyRoute cX12_copyRoute 4 none)) B.pre
  have hown : s.vm.findClass RX12 = some m.cls := findClass_of_methodNamed B.named
  have hlocks := B.notSynchronized
  subst hh
  have hD := hD0.self (sz := s.heap.size)
  have hA : ∀ q : Nat, s.heap.size ≤ q → (va_A (wR 21 ad (EM cs ad) mu) s.heap.size) q := fun q h => Or.inr h
  have hS : va_S (va_A (wR 21 ad (EM cs ad) mu) s.heap.size) s.heap s.heap [] := va_S.rf
  have hl := lv_entry ([.ref (ad 0), .ref (ad 18), .int vn]) (n := 4) (Nat.le_of_ble_eq_true rfl)
  rw [lg_entry_eq]
  generalize (lg_sl ([.ref (ad 0), .ref (ad 18), .int vn]) ++ List.replicate (4 - (lg_sl ([.ref (ad 0), .ref (ad 18), .int vn])).length) Slot.unset).toArray = ls at hl ⊢
  have hl : lv_has ls 4 [(0, .ref (ad 0)), (1, .ref (ad 18)), (2, .int vn)] := hl
  obtain ⟨fz, hfz⟩ : ∃ z, F_sm_copyRoute18 mu vn = z := ⟨_, rfl⟩
  have hF := hfz
  unfold F_sm_copyRoute18 at hF
  refine lv_iconst (v := 0) hx hb dX12_copyRoute_0 (by decide) ?_
  refine lv_istore_n (lv' := [(3, .int 0), (0, .ref (ad 0)), (1, .ref (ad 18)), (2, .int vn)]) hx hb dX12_copyRoute_1 rfl hl (by decide) rfl (fun ls hl => ?_)
  have loop2 : ∀ (n2 : Nat) (v3_2 : Int32) (nu2_ : Nat → Nat → Int32) (H : Heap) (locs : List Loc) (ls : Array Slot), (7 + 1 - v3_2.toInt).toNat < n2 → (0 ≤ v3_2.toInt ∧ v3_2.toInt ≤ 7) → okR loM hiM nu2_ → va_P (dC, dI) vwCl (wR 21 ad (EM cs ad) nu2_) H → (∀ k : Nat, 0 ≤ k → k < 17 → nu2_ k = mu k) → (∀ k f : Nat, Nat.testBit 510 (gpM k f) = true → nu2_ k f = mu k f) → L_sm_copyRoute18_2_0 vn n2 v3_2 nu2_ = fz → va_S (va_A (wR 21 ad (EM cs ad) mu) s.heap.size) s.heap H locs → lv_has ls 4 [(3, .int v3_2), (0, .ref (ad 0)), (1, .ref (ad 18)), (2, .int vn)] → W p l e (headSpec (wU yX12_copyRoute cX12_copyRoute 4 none) ({ frames := 0, cells := 0, slots := 0, locals := 0 })).room s m ([.ref (ad 0), .ref (ad 18), .int vn] : List Value).toArray below meth c H locs 0 0 (MQ below (va_Qv (fun (xi : Nat → Nat → Int32) => xi = F_sm_copyRoute18 mu vn ∧ okR loM hiM xi ∧ (True) ∧ (∀ k : Nat, 0 ≤ k → k < 17 → xi k = mu k) ∧ (∀ k f : Nat, Nat.testBit 510 (gpM k f) = true → xi k f = mu k f)) (fun xi t => va_P (dC, dI) vwCl (wR 21 ad (EM cs ad) xi) t.heap) (va_A (wR 21 ad (EM cs ad) mu) s.heap.size)) ([.ref (ad 0), .ref (ad 18), .int vn] : List Value).toArray s 0 0 (va_A (wR 21 ad (EM cs ad) mu) s.heap.size)) (F0 m 2 ls []) := by
    intro n2
    induction n2 with
    | zero => intro v3_2 nu2_ H locs ls hm; exact absurd hm (Nat.not_lt_zero _)
    | succ n2 ih2 =>
      intro v3_2 nu2_ H locs ls hm_2 h_v3_2 ok hP kq2_0 kq2_1 hF hS hl
      rw [L_sm_copyRoute18_2_0] at hF
      refine lv_iload_n hx hb dX12_copyRoute_2 rfl (lv_at hl 0 rfl) ?_
      refine lv_iload_n hx hb dX12_copyRoute_3 rfl (lv_at hl 3 rfl) ?_
      refine lv_icmp_ge (tgt := 22) hx hb dX12_copyRoute_4 (by decide) (fun c_1 => ?_) (fun c_1 => ?_)
      · have hF := (if_pos c_1).symm.trans hF
        have c_1 : vn.toInt ≤ v3_2.toInt := il_le c_1
        exact W.vret hx hb hr (fun t ht hW => ⟨⟨nu2_, rfl, ⟨hF.trans hfz.symm, ok, trivial, kq2_0, kq2_1⟩, by first | (subst ht; exact hP) | (rw [ht]; exact hP) | (show va_P (dC, dI) vwCl (wR 21 ad (EM cs ad) nu2_) t.heap; rw [ht]; exact hP)⟩, hS.F ht⟩) hS.2.2 dX12_copyRoute_22
      · have hF := (if_neg c_1).symm.trans hF
        have c_1 : v3_2.toInt < vn.toInt := il_nle c_1
        refine lv_aload_n hx hb dX12_copyRoute_7 rfl (lv_at hl 2 rfl) ?_
        refine lv_iload_n hx hb dX12_copyRoute_8 rfl (lv_at hl 0 rfl) ?_
        refine lv_aload_n hx hb dX12_copyRoute_9 rfl (lv_at hl 1 rfl) ?_
        refine va_get (D := (dC, dI)) (ci := 12) (v := .ref (ad 16)) (C := RX12) (T := TX12) (N := 46) hx hb hts inG12 hown hK hP 0 (gM_0 cs ad nu2_) rfl 26 (by decide) (hts _ (List.mem_cons_of_mem _ mw_5_67)) (fun _ h9 => h9) rfl dX12_copyRoute_10 ?_
        refine lv_iload_n hx hb dX12_copyRoute_13 rfl (lv_at hl 0 rfl) ?_
        refine va_iald hx hb hK hP 16 0 (gM_16 cs ad nu2_) rfl (show vp_in v3_2 7 from vi_of (by omega) (by omega)) dX12_copyRoute_14 ?_
        refine lv_topi (fun y2 ey2 => ?_)
        have hF := mi_let hF ey2
        have by2 : y2.toInt = (nu2_ 16 v3_2.toNatClampNeg).toInt := congrArg Int32.toInt ey2
        have gy2 : 0 ≤ y2.toInt ∧ y2.toInt ≤ 6 := by rw [ey2]; exact rM_16_s ok v3_2.toNatClampNeg
        refine va_iast hx hb hK hP (wR_D nu2_ hD) hS 18 0 (gM_18 cs ad nu2_) rfl (show vp_in v3_2 7 from vi_of (by omega) (by omega)) dX12_copyRoute_15 (fun H locs hP _ hS => ?_)
        refine wr_gen (upd (nu2_ 18) v3_2.toNatClampNeg y2) hP (rfl) (fun nu3 hn3 hP => ?_)
        have hF := mi_let hF hn3.symm
        have ok := tM_18_s ok v3_2.toNatClampNeg hn3
        have ez4 : y2 = nu3 16 v3_2.toNatClampNeg := ey2.trans (congrFun (up_k hn3 (by decide)) v3_2.toNatClampNeg).symm
        have kp5 : ∀ k : Nat, 0 ≤ k → k < 17 → nu3 k = mu k := fun k h1 h2 => (up_k hn3 (ne_hi (by decide) h2).symm).trans (kq2_0 k h1 h2)
        have kp6 : (∀ k f : Nat, Nat.testBit 510 (gpM k f) = true → nu3 k f = mu k f) := kp_c 0 hn3 (fun _ => rfl) (by decide) kq2_1
        refine lv_iinc (v := (v3_2 + 1)) (lv' := [(3, .int (v3_2 + 1)), (0, .ref (ad 0)), (1, .ref (ad 18)), (2, .int vn)]) hx hb dX12_copyRoute_16 hl (k := 0) rfl rfl (by decide) rfl (fun ls hl => ?_)
        refine loc_gen (P := fun w9 => lv_has ls 4 [(3, .int w9), (0, .ref (ad 0)), (1, .ref (ad 18)), (2, .int vn)]) (v3_2 + 1) hl (fun w7 hw7 hl => ?_)
        have hl : lv_has ls 4 [(3, .int w7), (0, .ref (ad 0)), (1, .ref (ad 18)), (2, .int vn)] := hl
        have hF := mi_let hF hw7.symm
        have aw7 : w7.toInt = v3_2.toInt + 1 := by rw [← hw7]; first | exact va1 (Int.lt_of_le_of_lt h_v3_2.2 (by decide)) | exact va1 (by omega)
        refine lv_goto (tgt := 2) hx hb dX12_copyRoute_19 (by decide) ?_
        exact ih2 (w7) nu3 _ _ _ (by first | exact ms_up hm_2 aw7 h_v3_2.2 | exact ms_lt hm_2 (by omega) (by omega) | omega) (by first | exact rg_up aw7 h_v3_2 (by omega) | omega)  ok hP  kp5 kp6 hF hS (lv_sub hl [0, 1, 2, 3] rfl)
  exact loop2 10 (0) mu _ _ _ (by have h80 : (0 : Int32).toInt = 0 := rfl; omega) (by have h80 : (0 : Int32).toInt = 0 := rfl; exact ⟨by omega, by omega⟩)  ok hP  (fun _ _ _ => rfl) (fun _ _ _ => rfl) hF hS hl
set_option maxHeartbeats 4000000 in
set_option maxRecDepth 100000 in
/-- sm_meetRoute -/
theorem sm_meetRoute (l : Launch) (dC : Nat → ClassId) (dI : Nat → Nat → Nat) (cs : Nat → ClassId) (ad : Nat → Nat) (mu : Nat → Nat → Int32) (ok : okR loM hiM mu) (H : Heap) (hP : va_P (dC, dI) vwCl (wR 21 ad (EM cs ad) mu) H) (hD0 : va_D (fun _ => True) (wR 21 ad (EM cs ad) mu)) (vn : Int32) (vs : Int32) (vp : Int32) (hin0 : 0 ≤ vn.toInt ∧ vn.toInt ≤ 7) (hin1 : ((mu 0 39).toInt = -9 ∨ (0 ≤ (mu 0 39).toInt ∧ (mu 0 39).toInt ≤ 3)) ∧ ((mu 0 33).toInt = 0 ∨ (mu 0 35).toInt ≤ 7)) : Met l yX12_meetRoute (wU yX12_meetRoute cX12_meetRoute 6 none) ({ frames := 2, cells := 0, slots := 0, locals := 45 }) (va_Pc [.ref (ad 0), .int vn, .int vs, .int vp] (sz_P (dC, dI) vwCl (tyM cs) H)) (va_Qv (fun (xi : Nat → Nat → Int32) => xi = F_sm_meetRoute mu vn vs vp ∧ okR loM hiM xi ∧ (((xi 0 39).toInt = -9 ∨ (0 ≤ (xi 0 39).toInt ∧ (xi 0 39).toInt ≤ 3)) ∧ ((xi 0 33).toInt = 0 ∨ (xi 0 35).toInt ≤ 7)) ∧ (∀ k f : Nat, Nat.testBit 510 (gpM k f) = true → xi k f = mu k f)) (fun xi t => va_P (dC, dI) vwCl (wR 21 ad (EM cs ad) xi) t.heap) (va_A (wR 21 ad (EM cs ad) mu) H.size)) 0 0 (va_A (wR 21 ad (EM cs ad) mu) H.size) := by
  refine Met.ofW (cc := cX12_meetRoute) (maxL := 6) (ret := none) (by decide) rfl ?_
  intro p e s m args below meth c s₁ B hml hv
  obtain ⟨rfl, hh, hK, hz⟩ := hv
  have hx := B.exec
  have hb := B.bytes
  have hr := B.returns
  have hts := atoms_spec (ws := (wU yX12_meetRoute cX12_meetRoute 6 none)) B.pre
  have hown : s.vm.findClass RX12 = some m.cls := findClass_of_methodNamed B.named
  have hlocks := B.notSynchronized
  subst hh
  have hD := hD0.self (sz := s.heap.size)
  have hA : ∀ q : Nat, s.heap.size ≤ q → (va_A (wR 21 ad (EM cs ad) mu) s.heap.size) q := fun q h => Or.inr h
  have hS : va_S (va_A (wR 21 ad (EM cs ad) mu) s.heap.size) s.heap s.heap [] := va_S.rf
  have hl := lv_entry ([.ref (ad 0), .int vn, .int vs, .int vp]) (n := 6) (Nat.le_of_ble_eq_true rfl)
  rw [lg_entry_eq]
  generalize (lg_sl ([.ref (ad 0), .int vn, .int vs, .int vp]) ++ List.replicate (6 - (lg_sl ([.ref (ad 0), .int vn, .int vs, .int vp])).length) Slot.unset).toArray = ls at hl ⊢
  have hl : lv_has ls 6 [(0, .ref (ad 0)), (1, .int vn), (2, .int vs), (3, .int vp)] := hl
  obtain ⟨fz, hfz⟩ : ∃ z, F_sm_meetRoute mu vn vs vp = z := ⟨_, rfl⟩
  have hF := hfz
  unfold F_sm_meetRoute at hF
  obtain ⟨y1, ey1⟩ : ∃ z : Int32, z = mu 0 39 := ⟨_, rfl⟩
  have hF := mi_let hF ey1
  have by1 : y1.toInt = (mu 0 39).toInt := congrArg Int32.toInt ey1
  have gy1 : -9 ≤ y1.toInt ∧ y1.toInt ≤ 3 := by rw [ey1]; exact rM_0_39 ok
  obtain ⟨y2, ey2⟩ : ∃ z : Int32, z = mu 0 33 := ⟨_, rfl⟩
  have hF := mi_let hF ey2
  have by2 : y2.toInt = (mu 0 33).toInt := congrArg Int32.toInt ey2
  obtain ⟨y3, ey3⟩ : ∃ z : Int32, z = mu 0 35 := ⟨_, rfl⟩
  have hF := mi_let hF ey3
  have by3 : y3.toInt = (mu 0 35).toInt := congrArg Int32.toInt ey3
  refine lv_aload_n hx hb dX12_meetRoute_0 rfl (lv_at hl 0 rfl) ?_
  refine lv_dup hx hb dX12_meetRoute_1 rfl ?_
  refine va_get (D := (dC, dI)) (ci := 12) (v := .int (mu 0 30)) (C := RX12) (T := TX12) (N := 46) hx hb hts inG12 hown hK hP 0 (gM_0 cs ad mu) rfl 30 (by decide) (hts _ (List.mem_cons_of_mem _ mw_5_71)) (fun _ h9 => h9) rfl dX12_meetRoute_2 ?_
  refine lv_topi (fun y4 ey4 => ?_)
  have hF := mi_let hF ey4
  have by4 : y4.toInt = (mu 0 30).toInt := congrArg Int32.toInt ey4
  refine lv_iconst (v := 1) hx hb dX12_meetRoute_5 (by decide) ?_
  refine lv_iadd hx hb dX12_meetRoute_6 ?_
  refine lv_topi (fun t5 et5 => ?_)
  have hF := mi_let hF et5
  refine va_put (D := (dC, dI)) (ci := 12) (v := .int t5) (ty := .int) (C := RX12) (T := TX12) (N := 46) hx hb hts inG12 tyX12 tyX12_ok nmX12 hown hK hP (wR_D mu hD) hS 0 (gM_0 cs ad mu) rfl 30 (by decide) (hts _ (List.mem_cons_of_mem _ mw_5_71)) (fun _ h9 => h9) rfl (by decide +kernel) rfl rfl (Nat.le_of_ble_eq_true rfl) dX12_meetRoute_7 (fun H locs hP _ hS => ?_)
  simp only [List.set_cons_succ, List.set_cons_zero] at hP
  refine wr_gen (upd (mu 0) 30 t5) hP ((hM_0_30 cs ad _ _)) (fun nu6 hn6 hP => ?_)
  have hF := mi_let hF hn6.symm
  have ok := tM_0_30 ok hn6
  have ez7 : y1 = nu6 0 39 := ey1.trans (up_f hn6 (by decide)).symm
  have ez8 : y2 = nu6 0 33 := ey2.trans (up_f hn6 (by decide)).symm
  have ez9 : y3 = nu6 0 35 := ey3.trans (up_f hn6 (by decide)).symm
  have kp10 : (∀ k f : Nat, Nat.testBit 510 (gpM k f) = true → nu6 k f = mu k f) := kp_f hn6 (by decide) (fun _ _ _ => rfl)
  have ez11 : t5 = nu6 0 30 := up_v hn6
  obtain ⟨jk53_10, hjk53_10, hF⟩ := mi_fork hF
  have join53_10 : ∀ (nj53_10 : Nat → Nat → Int32) (H : Heap) (locs : List Loc) (ls : Array Slot), (((nj53_10 0 39).toInt = -9 ∨ (0 ≤ (nj53_10 0 39).toInt ∧ (nj53_10 0 39).toInt ≤ 3)) ∧ ((nj53_10 0 33).toInt = 0 ∨ (nj53_10 0 35).toInt ≤ 7)) → okR loM hiM nj53_10 → va_P (dC, dI) vwCl (wR 21 ad (EM cs ad) nj53_10) H → (∀ k f : Nat, Nat.testBit 510 (gpM k f) = true → nj53_10 k f = mu k f) → jk53_10 nj53_10 = fz → va_S (va_A (wR 21 ad (EM cs ad) mu) s.heap.size) s.heap H locs → lv_has ls 6 [(0, .ref (ad 0)), (1, .int vn), (2, .int vs), (3, .int vp)] → W p l e (headSpec (wU yX12_meetRoute cX12_meetRoute 6 none) ({ frames := 2, cells := 0, slots := 0, locals := 45 })).room s m ([.ref (ad 0), .int vn, .int vs, .int vp] : List Value).toArray below meth c H locs 0 0 (MQ below (va_Qv (fun (xi : Nat → Nat → Int32) => xi = F_sm_meetRoute mu vn vs vp ∧ okR loM hiM xi ∧ (((xi 0 39).toInt = -9 ∨ (0 ≤ (xi 0 39).toInt ∧ (xi 0 39).toInt ≤ 3)) ∧ ((xi 0 33).toInt = 0 ∨ (xi 0 35).toInt ≤ 7)) ∧ (∀ k f : Nat, Nat.testBit 510 (gpM k f) = true → xi k f = mu k f)) (fun xi t => va_P (dC, dI) vwCl (wR 21 ad (EM cs ad) xi) t.heap) (va_A (wR 21 ad (EM cs ad) mu) s.heap.size)) ([.ref (ad 0), .int vn, .int vs, .int vp] : List Value).toArray s 0 0 (va_A (wR 21 ad (EM cs ad) mu) s.heap.size)) (F0 m 53 ls []) := by
    intro  nj53_10 H locs ls hj53_10_0 ok hP kj53_10_0 hF hS hl
    have hF := (congrFun hjk53_10 nj53_10).symm.trans hF
    obtain ⟨y12, ey12⟩ : ∃ z : Int32, z = nj53_10 0 39 := ⟨_, rfl⟩
    have hF := mi_let hF ey12
    have by12 : y12.toInt = (nj53_10 0 39).toInt := congrArg Int32.toInt ey12
    have gy12 : -9 ≤ y12.toInt ∧ y12.toInt ≤ 3 := by rw [ey12]; exact rM_0_39 ok
    obtain ⟨y13, ey13⟩ : ∃ z : Int32, z = nj53_10 0 33 := ⟨_, rfl⟩
    have hF := mi_let hF ey13
    have by13 : y13.toInt = (nj53_10 0 33).toInt := congrArg Int32.toInt ey13
    obtain ⟨y14, ey14⟩ : ∃ z : Int32, z = nj53_10 0 35 := ⟨_, rfl⟩
    have hF := mi_let hF ey14
    have by14 : y14.toInt = (nj53_10 0 35).toInt := congrArg Int32.toInt ey14
    refine lv_aload_n hx hb dX12_meetRoute_53 rfl (lv_at hl 0 rfl) ?_
    refine va_get (D := (dC, dI)) (ci := 12) (v := .int (nj53_10 0 39)) (C := RX12) (T := TX12) (N := 46) hx hb hts inG12 hown hK hP 0 (gM_0 cs ad nj53_10) rfl 39 (by decide) (hts _ (List.mem_cons_of_mem _ mw_5_80)) (fun _ h9 => h9) rfl dX12_meetRoute_54 ?_
    refine lq_i y12 ey12.symm ?_
    refine lv_bipush (v := (-9)) hx hb dX12_meetRoute_57 (by decide) ?_
    refine lv_icmp_ne (tgt := 63) hx hb dX12_meetRoute_59 (by decide) (fun c_15 => ?_) (fun c_15 => ?_)
    · have hF := (if_neg c_15).symm.trans hF
      have c_15 : ¬ y12.toInt = -9 := il_ne c_15
      obtain ⟨jk91_63, hjk91_63, hF⟩ := mi_fork hF
      have join91_63 : ∀ (j4_91_63 : Int32) (nj91_63 : Nat → Nat → Int32) (H : Heap) (locs : List Loc) (ls : Array Slot), (((nj91_63 0 39).toInt = -9 ∨ (0 ≤ (nj91_63 0 39).toInt ∧ (nj91_63 0 39).toInt ≤ 3)) ∧ ((nj91_63 0 33).toInt = 0 ∨ (nj91_63 0 35).toInt ≤ 7)) → (¬ (nj91_63 0 39).toInt = -9) → okR loM hiM nj91_63 → va_P (dC, dI) vwCl (wR 21 ad (EM cs ad) nj91_63) H → (∀ k f : Nat, Nat.testBit 510 (gpM k f) = true → nj91_63 k f = mu k f) → jk91_63 j4_91_63 nj91_63 = fz → va_S (va_A (wR 21 ad (EM cs ad) mu) s.heap.size) s.heap H locs → lv_has ls 6 [(0, .ref (ad 0)), (1, .int vn), (2, .int vs), (3, .int vp), (4, .int j4_91_63)] → W p l e (headSpec (wU yX12_meetRoute cX12_meetRoute 6 none) ({ frames := 2, cells := 0, slots := 0, locals := 45 })).room s m ([.ref (ad 0), .int vn, .int vs, .int vp] : List Value).toArray below meth c H locs 0 0 (MQ below (va_Qv (fun (xi : Nat → Nat → Int32) => xi = F_sm_meetRoute mu vn vs vp ∧ okR loM hiM xi ∧ (((xi 0 39).toInt = -9 ∨ (0 ≤ (xi 0 39).toInt ∧ (xi 0 39).toInt ≤ 3)) ∧ ((xi 0 33).toInt = 0 ∨ (xi 0 35).toInt ≤ 7)) ∧ (∀ k f : Nat, Nat.testBit 510 (gpM k f) = true → xi k f = mu k f)) (fun xi t => va_P (dC, dI) vwCl (wR 21 ad (EM cs ad) xi) t.heap) (va_A (wR 21 ad (EM cs ad) mu) s.heap.size)) ([.ref (ad 0), .int vn, .int vs, .int vp] : List Value).toArray s 0 0 (va_A (wR 21 ad (EM cs ad) mu) s.heap.size)) (F0 m 91 ls []) := by
        intro j4_91_63 nj91_63 H locs ls hj91_63_0 hj91_63_1 ok hP kj91_63_0 hF hS hl
        have hF := (congrFun (congrFun hjk91_63 j4_91_63) nj91_63).symm.trans hF
        obtain ⟨y16, ey16⟩ : ∃ z : Int32, z = nj91_63 0 39 := ⟨_, rfl⟩
        have hF := mi_let hF ey16
        have by16 : y16.toInt = (nj91_63 0 39).toInt := congrArg Int32.toInt ey16
        have gy16 : -9 ≤ y16.toInt ∧ y16.toInt ≤ 3 := by rw [ey16]; exact rM_0_39 ok
        obtain ⟨y17, ey17⟩ : ∃ z : Int32, z = nj91_63 0 33 := ⟨_, rfl⟩
        have hF := mi_let hF ey17
        have by17 : y17.toInt = (nj91_63 0 33).toInt := congrArg Int32.toInt ey17
        obtain ⟨y18, ey18⟩ : ∃ z : Int32, z = nj91_63 0 35 := ⟨_, rfl⟩
        have hF := mi_let hF ey18
        have by18 : y18.toInt = (nj91_63 0 35).toInt := congrArg Int32.toInt ey18
        obtain ⟨jk115_91, hjk115_91, hF⟩ := mi_fork hF
        have join115_91 : ∀ (j5_115_91 : Int32) (nj115_91 : Nat → Nat → Int32) (H : Heap) (locs : List Loc) (ls : Array Slot), (((nj115_91 0 39).toInt = -9 ∨ (0 ≤ (nj115_91 0 39).toInt ∧ (nj115_91 0 39).toInt ≤ 3)) ∧ ((nj115_91 0 33).toInt = 0 ∨ (nj115_91 0 35).toInt ≤ 7)) → (¬ (nj115_91 0 39).toInt = -9) → okR loM hiM nj115_91 → va_P (dC, dI) vwCl (wR 21 ad (EM cs ad) nj115_91) H → (∀ k f : Nat, Nat.testBit 510 (gpM k f) = true → nj115_91 k f = mu k f) → jk115_91 j5_115_91 nj115_91 = fz → va_S (va_A (wR 21 ad (EM cs ad) mu) s.heap.size) s.heap H locs → lv_has ls 6 [(0, .ref (ad 0)), (1, .int vn), (2, .int vs), (3, .int vp), (4, .int j4_91_63), (5, .int j5_115_91)] → W p l e (headSpec (wU yX12_meetRoute cX12_meetRoute 6 none) ({ frames := 2, cells := 0, slots := 0, locals := 45 })).room s m ([.ref (ad 0), .int vn, .int vs, .int vp] : List Value).toArray below meth c H locs 0 0 (MQ below (va_Qv (fun (xi : Nat → Nat → Int32) => xi = F_sm_meetRoute mu vn vs vp ∧ okR loM hiM xi ∧ (((xi 0 39).toInt = -9 ∨ (0 ≤ (xi 0 39).toInt ∧ (xi 0 39).toInt ≤ 3)) ∧ ((xi 0 33).toInt = 0 ∨ (xi 0 35).toInt ≤ 7)) ∧ (∀ k f : Nat, Nat.testBit 510 (gpM k f) = true → xi k f = mu k f)) (fun xi t => va_P (dC, dI) vwCl (wR 21 ad (EM cs ad) xi) t.heap) (va_A (wR 21 ad (EM cs ad) mu) s.heap.size)) ([.ref (ad 0), .int vn, .int vs, .int vp] : List Value).toArray s 0 0 (va_A (wR 21 ad (EM cs ad) mu) s.heap.size)) (F0 m 115 ls []) := by
          intro j5_115_91 nj115_91 H locs ls hj115_91_0 hj115_91_1 ok hP kj115_91_0 hF hS hl
          have hF := (congrFun (congrFun hjk115_91 j5_115_91) nj115_91).symm.trans hF
          obtain ⟨y19, ey19⟩ : ∃ z : Int32, z = nj115_91 0 39 := ⟨_, rfl⟩
          have hF := mi_let hF ey19
          have by19 : y19.toInt = (nj115_91 0 39).toInt := congrArg Int32.toInt ey19
          have gy19 : -9 ≤ y19.toInt ∧ y19.toInt ≤ 3 := by rw [ey19]; exact rM_0_39 ok
          obtain ⟨y20, ey20⟩ : ∃ z : Int32, z = nj115_91 0 33 := ⟨_, rfl⟩
          have hF := mi_let hF ey20
          have by20 : y20.toInt = (nj115_91 0 33).toInt := congrArg Int32.toInt ey20
          obtain ⟨y21, ey21⟩ : ∃ z : Int32, z = nj115_91 0 35 := ⟨_, rfl⟩
          have hF := mi_let hF ey21
          have by21 : y21.toInt = (nj115_91 0 35).toInt := congrArg Int32.toInt ey21
          obtain ⟨jk137_115, hjk137_115, hF⟩ := mi_fork hF
          have join137_115 : ∀ (nj137_115 : Nat → Nat → Int32) (H : Heap) (locs : List Loc) (ls : Array Slot), (((nj137_115 0 39).toInt = -9 ∨ (0 ≤ (nj137_115 0 39).toInt ∧ (nj137_115 0 39).toInt ≤ 3)) ∧ ((nj137_115 0 33).toInt = 0 ∨ (nj137_115 0 35).toInt ≤ 7)) → (¬ (nj137_115 0 39).toInt = -9) → okR loM hiM nj137_115 → va_P (dC, dI) vwCl (wR 21 ad (EM cs ad) nj137_115) H → (∀ k f : Nat, Nat.testBit 510 (gpM k f) = true → nj137_115 k f = mu k f) → jk137_115 nj137_115 = fz → va_S (va_A (wR 21 ad (EM cs ad) mu) s.heap.size) s.heap H locs → lv_has ls 6 [(0, .ref (ad 0)), (1, .int vn), (2, .int vs), (3, .int vp), (4, .int j4_91_63), (5, .int j5_115_91)] → W p l e (headSpec (wU yX12_meetRoute cX12_meetRoute 6 none) ({ frames := 2, cells := 0, slots := 0, locals := 45 })).room s m ([.ref (ad 0), .int vn, .int vs, .int vp] : List Value).toArray below meth c H locs 0 0 (MQ below (va_Qv (fun (xi : Nat → Nat → Int32) => xi = F_sm_meetRoute mu vn vs vp ∧ okR loM hiM xi ∧ (((xi 0 39).toInt = -9 ∨ (0 ≤ (xi 0 39).toInt ∧ (xi 0 39).toInt ≤ 3)) ∧ ((xi 0 33).toInt = 0 ∨ (xi 0 35).toInt ≤ 7)) ∧ (∀ k f : Nat, Nat.testBit 510 (gpM k f) = true → xi k f = mu k f)) (fun xi t => va_P (dC, dI) vwCl (wR 21 ad (EM cs ad) xi) t.heap) (va_A (wR 21 ad (EM cs ad) mu) s.heap.size)) ([.ref (ad 0), .int vn, .int vs, .int vp] : List Value).toArray s 0 0 (va_A (wR 21 ad (EM cs ad) mu) s.heap.size)) (F0 m 137 ls []) := by
            intro  nj137_115 H locs ls hj137_115_0 hj137_115_1 ok hP kj137_115_0 hF hS hl
            have hF := (congrFun hjk137_115 nj137_115).symm.trans hF
            obtain ⟨y22, ey22⟩ : ∃ z : Int32, z = nj137_115 0 39 := ⟨_, rfl⟩
            have hF := mi_let hF ey22
            have by22 : y22.toInt = (nj137_115 0 39).toInt := congrArg Int32.toInt ey22
            have gy22 : -9 ≤ y22.toInt ∧ y22.toInt ≤ 3 := by rw [ey22]; exact rM_0_39 ok
            obtain ⟨y23, ey23⟩ : ∃ z : Int32, z = nj137_115 0 33 := ⟨_, rfl⟩
            have hF := mi_let hF ey23
            have by23 : y23.toInt = (nj137_115 0 33).toInt := congrArg Int32.toInt ey23
            obtain ⟨y24, ey24⟩ : ∃ z : Int32, z = nj137_115 0 35 := ⟨_, rfl⟩
            have hF := mi_let hF ey24
            have by24 : y24.toInt = (nj137_115 0 35).toInt := congrArg Int32.toInt ey24
            refine lv_aload_n hx hb dX12_meetRoute_137 rfl (lv_at hl 0 rfl) ?_
            refine lv_aload_n hx hb dX12_meetRoute_138 rfl (lv_at hl 0 rfl) ?_
            refine va_get (D := (dC, dI)) (ci := 12) (v := .int (nj137_115 0 39)) (C := RX12) (T := TX12) (N := 46) hx hb hts inG12 hown hK hP 0 (gM_0 cs ad nj137_115) rfl 39 (by decide) (hts _ (List.mem_cons_of_mem _ mw_5_80)) (fun _ h9 => h9) rfl dX12_meetRoute_139 ?_
            refine lq_i y22 ey22.symm ?_
            refine lv_iload hx hb dX12_meetRoute_142 (lv_at hl 4 rfl) ?_
            refine cr_i (va_runV (As := [.int y22, .int j4_91_63]) (rest := []) ⟨hx, hb, hml, hown, hts⟩ (sm_worthIn l dC dI cs ad nj137_115 ok H hP y22 j4_91_63 (by omega)) (cwV 2 hts (wU_V mw_6_126 mw_6_123 mw_6_125 mw_0_49 mw_1_13) rfl rfl rfl (by decide +kernel) ⟨Nat.le_of_ble_eq_true rfl, Nat.le_of_ble_eq_true rfl⟩) ⟨sz_c, va_recv hK hP (ci := 12) (q0 := 0) rfl (gM_0 cs ad nj137_115), sz_m hK hz⟩ rfl rfl hl.1 rfl (lv_room (Nat.le_of_ble_eq_true rfl)) dX12_meetRoute_144 ⟨Nat.zero_le _, Nat.zero_le _⟩) hS (fun r25 hw25 locs hS => ?_)
            obtain ⟨hfe25, hw25⟩ := hw25
            have hF := mi_let hF hfe25
            refine lv_iload_n hx hb dX12_meetRoute_147 rfl (lv_at hl 3 rfl) ?_
            refine lv_icmp_lt (tgt := 214) hx hb dX12_meetRoute_148 (by decide) (fun c_26 => ?_) (fun c_26 => ?_)
            · have hF := (if_pos c_26).symm.trans hF
              have c_26 : r25.toInt < vp.toInt := il_lt c_26
              exact W.vret hx hb hr (fun t ht hW => ⟨⟨nj137_115, rfl, ⟨hF.trans hfz.symm, ok, (by first | assumption | (have hb27 := congrArg Int32.toInt ey22; have hb28 := congrArg Int32.toInt ey23; have hb29 := congrArg Int32.toInt ey24; omega)), kj137_115_0⟩, by first | (subst ht; exact hP) | (rw [ht]; exact hP) | (show va_P (dC, dI) vwCl (wR 21 ad (EM cs ad) nj137_115) t.heap; rw [ht]; exact hP)⟩, hS.F ht⟩) hS.2.2 dX12_meetRoute_214
            · have hF := (if_neg c_26).symm.trans hF
              have c_26 : vp.toInt ≤ r25.toInt := il_nlt c_26
              refine lv_aload_n hx hb dX12_meetRoute_151 rfl (lv_at hl 0 rfl) ?_
              refine lv_dup hx hb dX12_meetRoute_152 rfl ?_
              refine va_get (D := (dC, dI)) (ci := 12) (v := .int (nj137_115 0 33)) (C := RX12) (T := TX12) (N := 46) hx hb hts inG12 hown hK hP 0 (gM_0 cs ad nj137_115) rfl 33 (by decide) (hts _ (List.mem_cons_of_mem _ mw_5_74)) (fun _ h9 => h9) rfl dX12_meetRoute_153 ?_
              refine lq_i y23 ey23.symm ?_
              refine lv_iconst (v := 1) hx hb dX12_meetRoute_156 (by decide) ?_
              refine lv_iadd hx hb dX12_meetRoute_157 ?_
              refine lv_topi (fun t30 et30 => ?_)
              have hF := mi_let hF et30
              refine va_put (D := (dC, dI)) (ci := 12) (v := .int t30) (ty := .int) (C := RX12) (T := TX12) (N := 46) hx hb hts inG12 tyX12 tyX12_ok nmX12 hown hK hP (wR_D nj137_115 hD) hS 0 (gM_0 cs ad nj137_115) rfl 33 (by decide) (hts _ (List.mem_cons_of_mem _ mw_5_74)) (fun _ h9 => h9) rfl (by decide +kernel) rfl rfl (Nat.le_of_ble_eq_true rfl) dX12_meetRoute_158 (fun H locs hP _ hS => ?_)
              simp only [List.set_cons_succ, List.set_cons_zero] at hP
              refine wr_gen (upd (nj137_115 0) 33 t30) hP ((hM_0_33 cs ad _ _)) (fun nu31 hn31 hP => ?_)
              have hF := mi_let hF hn31.symm
              have ok := tM_0_33 ok hn31
              have ez32 : y22 = nu31 0 39 := ey22.trans (up_f hn31 (by decide)).symm
              have ez33 : y24 = nu31 0 35 := ey24.trans (up_f hn31 (by decide)).symm
              have kp34 : (∀ k f : Nat, Nat.testBit 510 (gpM k f) = true → nu31 k f = mu k f) := kp_f hn31 (by decide) kj137_115_0
              have ez35 : t30 = nu31 0 33 := up_v hn31
              refine lv_aload_n hx hb dX12_meetRoute_161 rfl (lv_at hl 0 rfl) ?_
              refine lv_dup hx hb dX12_meetRoute_162 rfl ?_
              refine va_get (D := (dC, dI)) (ci := 12) (v := .int (nu31 0 36)) (C := RX12) (T := TX12) (N := 46) hx hb hts inG12 hown hK hP 0 (gM_0 cs ad nu31) rfl 36 (by decide) (hts _ (List.mem_cons_of_mem _ mw_5_77)) (fun _ h9 => h9) rfl dX12_meetRoute_163 ?_
              refine lv_topi (fun y36 ey36 => ?_)
              have hF := mi_let hF ey36
              have by36 : y36.toInt = (nu31 0 36).toInt := congrArg Int32.toInt ey36
              refine lv_iload_n hx hb dX12_meetRoute_166 rfl (lv_at hl 2 rfl) ?_
              refine lv_iand hx hb dX12_meetRoute_167 ?_
              refine lv_topi (fun t37 et37 => ?_)
              have hF := mi_let hF et37
              refine va_put (D := (dC, dI)) (ci := 12) (v := .int t37) (ty := .int) (C := RX12) (T := TX12) (N := 46) hx hb hts inG12 tyX12 tyX12_ok nmX12 hown hK hP (wR_D nu31 hD) hS 0 (gM_0 cs ad nu31) rfl 36 (by decide) (hts _ (List.mem_cons_of_mem _ mw_5_77)) (fun _ h9 => h9) rfl (by decide +kernel) rfl rfl (Nat.le_of_ble_eq_true rfl) dX12_meetRoute_168 (fun H locs hP _ hS => ?_)
              simp only [List.set_cons_succ, List.set_cons_zero] at hP
              refine wr_gen (upd (nu31 0) 36 t37) hP ((hM_0_36 cs ad _ _)) (fun nu38 hn38 hP => ?_)
              have hF := mi_let hF hn38.symm
              have ok := tM_0_36 ok hn38
              have ez39 : y22 = nu38 0 39 := ez32.trans (up_f hn38 (by decide)).symm
              have ez40 : y24 = nu38 0 35 := ez33.trans (up_f hn38 (by decide)).symm
              have ez41 : t30 = nu38 0 33 := ez35.trans (up_f hn38 (by decide)).symm
              have kp42 : (∀ k f : Nat, Nat.testBit 510 (gpM k f) = true → nu38 k f = mu k f) := kp_f hn38 (by decide) kp34
              have ez43 : t37 = nu38 0 36 := up_v hn38
              refine lv_iload_n hx hb dX12_meetRoute_171 rfl (lv_at hl 1 rfl) ?_
              refine lv_aload_n hx hb dX12_meetRoute_172 rfl (lv_at hl 0 rfl) ?_
              refine va_get (D := (dC, dI)) (ci := 12) (v := .int (nu38 0 35)) (C := RX12) (T := TX12) (N := 46) hx hb hts inG12 hown hK hP 0 (gM_0 cs ad nu38) rfl 35 (by decide) (hts _ (List.mem_cons_of_mem _ mw_5_76)) (fun _ h9 => h9) rfl dX12_meetRoute_173 ?_
              refine lq_i y24 ez40.symm ?_
              refine lv_icmp_lt (tgt := 195) hx hb dX12_meetRoute_176 (by decide) (fun c_44 => ?_) (fun c_44 => ?_)
              · have hF := (if_pos c_44).symm.trans hF
                have c_44 : vn.toInt < y24.toInt := il_lt c_44
                refine lv_aload_n hx hb dX12_meetRoute_195 rfl (lv_at hl 0 rfl) ?_
                refine lv_iload_n hx hb dX12_meetRoute_196 rfl (lv_at hl 3 rfl) ?_
                refine va_put (D := (dC, dI)) (ci := 12) (v := .int vp) (ty := .int) (C := RX12) (T := TX12) (N := 46) hx hb hts inG12 tyX12 tyX12_ok nmX12 hown hK hP (wR_D nu38 hD) hS 0 (gM_0 cs ad nu38) rfl 34 (by decide) (hts _ (List.mem_cons_of_mem _ mw_5_75)) (fun _ h9 => h9) rfl (by decide +kernel) rfl rfl (Nat.le_of_ble_eq_true rfl) dX12_meetRoute_197 (fun H locs hP _ hS => ?_)
                simp only [List.set_cons_succ, List.set_cons_zero] at hP
                refine wr_gen (upd (nu38 0) 34 vp) hP ((hM_0_34 cs ad _ _)) (fun nu45 hn45 hP => ?_)
                have hF := mi_let hF hn45.symm
                have ok := tM_0_34 ok hn45
                have ez46 : y22 = nu45 0 39 := ez39.trans (up_f hn45 (by decide)).symm
                have ez47 : y24 = nu45 0 35 := ez40.trans (up_f hn45 (by decide)).symm
                have ez48 : t30 = nu45 0 33 := ez41.trans (up_f hn45 (by decide)).symm
                have ez49 : t37 = nu45 0 36 := ez43.trans (up_f hn45 (by decide)).symm
                have kp50 : (∀ k f : Nat, Nat.testBit 510 (gpM k f) = true → nu45 k f = mu k f) := kp_f hn45 (by decide) kp42
                have ez51 : vp = nu45 0 34 := up_v hn45
                refine lv_aload_n hx hb dX12_meetRoute_200 rfl (lv_at hl 0 rfl) ?_
                refine lv_iload_n hx hb dX12_meetRoute_201 rfl (lv_at hl 1 rfl) ?_
                refine va_put (D := (dC, dI)) (ci := 12) (v := .int vn) (ty := .int) (C := RX12) (T := TX12) (N := 46) hx hb hts inG12 tyX12 tyX12_ok nmX12 hown hK hP (wR_D nu45 hD) hS 0 (gM_0 cs ad nu45) rfl 35 (by decide) (hts _ (List.mem_cons_of_mem _ mw_5_76)) (fun _ h9 => h9) rfl (by decide +kernel) rfl rfl (Nat.le_of_ble_eq_true rfl) dX12_meetRoute_202 (fun H locs hP _ hS => ?_)
                simp only [List.set_cons_succ, List.set_cons_zero] at hP
                refine wr_gen (upd (nu45 0) 35 vn) hP ((hM_0_35 cs ad _ _)) (fun nu52 hn52 hP => ?_)
                have hF := mi_let hF hn52.symm
                have ok := tM_0_35 ok hn52
                have ez53 : y22 = nu52 0 39 := ez46.trans (up_f hn52 (by decide)).symm
                have ez54 : t30 = nu52 0 33 := ez48.trans (up_f hn52 (by decide)).symm
                have ez55 : t37 = nu52 0 36 := ez49.trans (up_f hn52 (by decide)).symm
                have ez56 : vp = nu52 0 34 := ez51.trans (up_f hn52 (by decide)).symm
                have kp57 : (∀ k f : Nat, Nat.testBit 510 (gpM k f) = true → nu52 k f = mu k f) := kp_f hn52 (by decide) kp50
                have ez58 : vn = nu52 0 35 := up_v hn52
                refine lv_aload_n hx hb dX12_meetRoute_205 rfl (lv_at hl 0 rfl) ?_
                refine lv_aload_n hx hb dX12_meetRoute_206 rfl (lv_at hl 0 rfl) ?_
                refine va_get (D := (dC, dI)) (ci := 12) (v := .ref (ad 18)) (C := RX12) (T := TX12) (N := 46) hx hb hts inG12 hown hK hP 0 (gM_0 cs ad nu52) rfl 28 (by decide) (hts _ (List.mem_cons_of_mem _ mw_5_69)) (fun _ h9 => h9) rfl dX12_meetRoute_207 ?_
                refine lv_iload_n hx hb dX12_meetRoute_210 rfl (lv_at hl 1 rfl) ?_
                have hFc := fr_all (wR_D nu52 hD) hS hA
                refine va_callv (va_runV (As := [.ref (ad 18), .int vn]) (rest := []) ⟨hx, hb, hml, hown, hts⟩ (sm_copyRoute18 l dC dI cs ad nu52 ok H hP ((wR_D nu52 hD).weaken (fun _ _ _ _ => trivial)) vn (by omega)) (cwV 2 hts (wU_V mw_6_191 mw_6_188 mw_6_190 mw_0_57 mw_1_13) rfl rfl rfl (by decide +kernel) ⟨Nat.le_of_ble_eq_true rfl, Nat.le_of_ble_eq_true rfl⟩) ⟨sz_c, va_recv hK hP (ci := 12) (q0 := 0) rfl (gM_0 cs ad nu52), sz_m hK hz⟩ rfl rfl hl.1 rfl (lv_room (Nat.le_of_ble_eq_true rfl)) dX12_meetRoute_211 ⟨Nat.zero_le _, Nat.zero_le _⟩) hS (fun q _ h => hFc q h) hFc (fun xi59 t H59 locs ht hvm hw59 hB hz1 hk1 hS => ?_)
                have hP : va_P (dC, dI) vwCl (wR 21 ad (EM cs ad) xi59) H59 := by rw [← ht]; exact hB
                obtain ⟨hfe59, ok, hw59, hkp59_0, hkp59_1⟩ := hw59
                have hF := mi_let hF hfe59
                have ez60 : y22 = xi59 0 39 := ez53.trans (congrFun (hkp59_0 0 (by decide) (by decide)) 39).symm
                have ez61 : t30 = xi59 0 33 := ez54.trans (congrFun (hkp59_0 0 (by decide) (by decide)) 33).symm
                have ez62 : t37 = xi59 0 36 := ez55.trans (congrFun (hkp59_0 0 (by decide) (by decide)) 36).symm
                have ez63 : vp = xi59 0 34 := ez56.trans (congrFun (hkp59_0 0 (by decide) (by decide)) 34).symm
                have ez64 : vn = xi59 0 35 := ez58.trans (congrFun (hkp59_0 0 (by decide) (by decide)) 35).symm
                have kp65 : (∀ k f : Nat, Nat.testBit 510 (gpM k f) = true → xi59 k f = mu k f) := kp_t hkp59_1 (by decide) kp57
                exact W.vret hx hb hr (fun t ht hW => ⟨⟨xi59, rfl, ⟨hF.trans hfz.symm, ok, (by first | assumption | (have hb66 := congrArg Int32.toInt ez60; have hb67 := congrArg Int32.toInt ez61; have hb68 := congrArg Int32.toInt ez64; omega)), kp65⟩, by first | (subst ht; exact hP) | (rw [ht]; exact hP) | (show va_P (dC, dI) vwCl (wR 21 ad (EM cs ad) xi59) t.heap; rw [ht]; exact hP)⟩, hS.F ht⟩) hS.2.2 dX12_meetRoute_214
              · have hF := (if_neg c_44).symm.trans hF
                have c_44 : y24.toInt ≤ vn.toInt := il_nlt c_44
                refine lv_iload_n hx hb dX12_meetRoute_179 rfl (lv_at hl 1 rfl) ?_
                refine lv_aload_n hx hb dX12_meetRoute_180 rfl (lv_at hl 0 rfl) ?_
                refine va_get (D := (dC, dI)) (ci := 12) (v := .int (nu38 0 35)) (C := RX12) (T := TX12) (N := 46) hx hb hts inG12 hown hK hP 0 (gM_0 cs ad nu38) rfl 35 (by decide) (hts _ (List.mem_cons_of_mem _ mw_5_76)) (fun _ h9 => h9) rfl dX12_meetRoute_181 ?_
                refine lq_i y24 ez40.symm ?_
                refine lv_icmp_ne (tgt := 214) hx hb dX12_meetRoute_184 (by decide) (fun c_69 => ?_) (fun c_69 => ?_)
                · have hF := (if_neg c_69).symm.trans hF
                  have c_69 : ¬ vn.toInt = y24.toInt := il_ne c_69
                  exact W.vret hx hb hr (fun t ht hW => ⟨⟨nu38, rfl, ⟨hF.trans hfz.symm, ok, (by first | assumption | (have hb70 := congrArg Int32.toInt ez39; have hb71 := congrArg Int32.toInt ez40; have hb72 := congrArg Int32.toInt ez41; omega)), kp42⟩, by first | (subst ht; exact hP) | (rw [ht]; exact hP) | (show va_P (dC, dI) vwCl (wR 21 ad (EM cs ad) nu38) t.heap; rw [ht]; exact hP)⟩, hS.F ht⟩) hS.2.2 dX12_meetRoute_214
                · have hF := (if_pos c_69).symm.trans hF
                  have c_69 : vn.toInt = y24.toInt := il_eq c_69
                  refine lv_iload_n hx hb dX12_meetRoute_187 rfl (lv_at hl 3 rfl) ?_
                  refine lv_aload_n hx hb dX12_meetRoute_188 rfl (lv_at hl 0 rfl) ?_
                  refine va_get (D := (dC, dI)) (ci := 12) (v := .int (nu38 0 34)) (C := RX12) (T := TX12) (N := 46) hx hb hts inG12 hown hK hP 0 (gM_0 cs ad nu38) rfl 34 (by decide) (hts _ (List.mem_cons_of_mem _ mw_5_75)) (fun _ h9 => h9) rfl dX12_meetRoute_189 ?_
                  refine lv_topi (fun y73 ey73 => ?_)
                  have hF := mi_let hF ey73
                  have by73 : y73.toInt = (nu38 0 34).toInt := congrArg Int32.toInt ey73
                  refine lv_icmp_ge (tgt := 214) hx hb dX12_meetRoute_192 (by decide) (fun c_74 => ?_) (fun c_74 => ?_)
                  · have hF := (if_pos c_74).symm.trans hF
                    have c_74 : y73.toInt ≤ vp.toInt := il_le c_74
                    exact W.vret hx hb hr (fun t ht hW => ⟨⟨nu38, rfl, ⟨hF.trans hfz.symm, ok, (by first | assumption | (have hb75 := congrArg Int32.toInt ez39; have hb76 := congrArg Int32.toInt ez40; have hb77 := congrArg Int32.toInt ez41; omega)), kp42⟩, by first | (subst ht; exact hP) | (rw [ht]; exact hP) | (show va_P (dC, dI) vwCl (wR 21 ad (EM cs ad) nu38) t.heap; rw [ht]; exact hP)⟩, hS.F ht⟩) hS.2.2 dX12_meetRoute_214
                  · have hF := (if_neg c_74).symm.trans hF
                    have c_74 : vp.toInt < y73.toInt := il_nle c_74
                    refine lv_aload_n hx hb dX12_meetRoute_195 rfl (lv_at hl 0 rfl) ?_
                    refine lv_iload_n hx hb dX12_meetRoute_196 rfl (lv_at hl 3 rfl) ?_
                    refine va_put (D := (dC, dI)) (ci := 12) (v := .int vp) (ty := .int) (C := RX12) (T := TX12) (N := 46) hx hb hts inG12 tyX12 tyX12_ok nmX12 hown hK hP (wR_D nu38 hD) hS 0 (gM_0 cs ad nu38) rfl 34 (by decide) (hts _ (List.mem_cons_of_mem _ mw_5_75)) (fun _ h9 => h9) rfl (by decide +kernel) rfl rfl (Nat.le_of_ble_eq_true rfl) dX12_meetRoute_197 (fun H locs hP _ hS => ?_)
                    simp only [List.set_cons_succ, List.set_cons_zero] at hP
                    refine wr_gen (upd (nu38 0) 34 vp) hP ((hM_0_34 cs ad _ _)) (fun nu78 hn78 hP => ?_)
                    have hF := mi_let hF hn78.symm
                    have ok := tM_0_34 ok hn78
                    have ez79 : y22 = nu78 0 39 := ez39.trans (up_f hn78 (by decide)).symm
                    have ez80 : y24 = nu78 0 35 := ez40.trans (up_f hn78 (by decide)).symm
                    have ez81 : t30 = nu78 0 33 := ez41.trans (up_f hn78 (by decide)).symm
                    have ez82 : t37 = nu78 0 36 := ez43.trans (up_f hn78 (by decide)).symm
                    have kp83 : (∀ k f : Nat, Nat.testBit 510 (gpM k f) = true → nu78 k f = mu k f) := kp_f hn78 (by decide) kp42
                    have ez84 : vp = nu78 0 34 := up_v hn78
                    refine lv_aload_n hx hb dX12_meetRoute_200 rfl (lv_at hl 0 rfl) ?_
                    refine lv_iload_n hx hb dX12_meetRoute_201 rfl (lv_at hl 1 rfl) ?_
                    refine va_put (D := (dC, dI)) (ci := 12) (v := .int vn) (ty := .int) (C := RX12) (T := TX12) (N := 46) hx hb hts inG12 tyX12 tyX12_ok nmX12 hown hK hP (wR_D nu78 hD) hS 0 (gM_0 cs ad nu78) rfl 35 (by decide) (hts _ (List.mem_cons_of_mem _ mw_5_76)) (fun _ h9 => h9) rfl (by decide +kernel) rfl rfl (Nat.le_of_ble_eq_true rfl) dX12_meetRoute_202 (fun H locs hP _ hS => ?_)
                    simp only [List.set_cons_succ, List.set_cons_zero] at hP
                    refine wr_gen (upd (nu78 0) 35 vn) hP ((hM_0_35 cs ad _ _)) (fun nu85 hn85 hP => ?_)
                    have hF := mi_let hF hn85.symm
                    have ok := tM_0_35 ok hn85
                    have ez86 : y22 = nu85 0 39 := ez79.trans (up_f hn85 (by decide)).symm
                    have ez87 : t30 = nu85 0 33 := ez81.trans (up_f hn85 (by decide)).symm
                    have ez88 : t37 = nu85 0 36 := ez82.trans (up_f hn85 (by decide)).symm
                    have ez89 : vp = nu85 0 34 := ez84.trans (up_f hn85 (by decide)).symm
                    have kp90 : (∀ k f : Nat, Nat.testBit 510 (gpM k f) = true → nu85 k f = mu k f) := kp_f hn85 (by decide) kp83
                    have ez91 : vn = nu85 0 35 := up_v hn85
                    refine lv_aload_n hx hb dX12_meetRoute_205 rfl (lv_at hl 0 rfl) ?_
                    refine lv_aload_n hx hb dX12_meetRoute_206 rfl (lv_at hl 0 rfl) ?_
                    refine va_get (D := (dC, dI)) (ci := 12) (v := .ref (ad 18)) (C := RX12) (T := TX12) (N := 46) hx hb hts inG12 hown hK hP 0 (gM_0 cs ad nu85) rfl 28 (by decide) (hts _ (List.mem_cons_of_mem _ mw_5_69)) (fun _ h9 => h9) rfl dX12_meetRoute_207 ?_
                    refine lv_iload_n hx hb dX12_meetRoute_210 rfl (lv_at hl 1 rfl) ?_
                    have hFc := fr_all (wR_D nu85 hD) hS hA
                    refine va_callv (va_runV (As := [.ref (ad 18), .int vn]) (rest := []) ⟨hx, hb, hml, hown, hts⟩ (sm_copyRoute18 l dC dI cs ad nu85 ok H hP ((wR_D nu85 hD).weaken (fun _ _ _ _ => trivial)) vn (by omega)) (cwV 2 hts (wU_V mw_6_191 mw_6_188 mw_6_190 mw_0_57 mw_1_13) rfl rfl rfl (by decide +kernel) ⟨Nat.le_of_ble_eq_true rfl, Nat.le_of_ble_eq_true rfl⟩) ⟨sz_c, va_recv hK hP (ci := 12) (q0 := 0) rfl (gM_0 cs ad nu85), sz_m hK hz⟩ rfl rfl hl.1 rfl (lv_room (Nat.le_of_ble_eq_true rfl)) dX12_meetRoute_211 ⟨Nat.zero_le _, Nat.zero_le _⟩) hS (fun q _ h => hFc q h) hFc (fun xi92 t H92 locs ht hvm hw92 hB hz1 hk1 hS => ?_)
                    have hP : va_P (dC, dI) vwCl (wR 21 ad (EM cs ad) xi92) H92 := by rw [← ht]; exact hB
                    obtain ⟨hfe92, ok, hw92, hkp92_0, hkp92_1⟩ := hw92
                    have hF := mi_let hF hfe92
                    have ez93 : y22 = xi92 0 39 := ez86.trans (congrFun (hkp92_0 0 (by decide) (by decide)) 39).symm
                    have ez94 : t30 = xi92 0 33 := ez87.trans (congrFun (hkp92_0 0 (by decide) (by decide)) 33).symm
                    have ez95 : t37 = xi92 0 36 := ez88.trans (congrFun (hkp92_0 0 (by decide) (by decide)) 36).symm
                    have ez96 : vp = xi92 0 34 := ez89.trans (congrFun (hkp92_0 0 (by decide) (by decide)) 34).symm
                    have ez97 : vn = xi92 0 35 := ez91.trans (congrFun (hkp92_0 0 (by decide) (by decide)) 35).symm
                    have kp98 : (∀ k f : Nat, Nat.testBit 510 (gpM k f) = true → xi92 k f = mu k f) := kp_t hkp92_1 (by decide) kp90
                    exact W.vret hx hb hr (fun t ht hW => ⟨⟨xi92, rfl, ⟨hF.trans hfz.symm, ok, (by first | assumption | (have hb99 := congrArg Int32.toInt ez93; have hb100 := congrArg Int32.toInt ez94; have hb101 := congrArg Int32.toInt ez97; omega)), kp98⟩, by first | (subst ht; exact hP) | (rw [ht]; exact hP) | (show va_P (dC, dI) vwCl (wR 21 ad (EM cs ad) xi92) t.heap; rw [ht]; exact hP)⟩, hS.F ht⟩) hS.2.2 dX12_meetRoute_214
          refine lv_aload_n hx hb dX12_meetRoute_115 rfl (lv_at hl 0 rfl) ?_
          refine lv_iload hx hb dX12_meetRoute_116 (lv_at hl 5 rfl) ?_
          refine lv_aload_n hx hb dX12_meetRoute_118 rfl (lv_at hl 0 rfl) ?_
          refine va_get (D := (dC, dI)) (ci := 12) (v := .int (nj115_91 0 37)) (C := RX12) (T := TX12) (N := 46) hx hb hts inG12 hown hK hP 0 (gM_0 cs ad nj115_91) rfl 37 (by decide) (hts _ (List.mem_cons_of_mem _ mw_5_78)) (fun _ h9 => h9) rfl dX12_meetRoute_119 ?_
          refine lv_topi (fun y102 ey102 => ?_)
          have hF := mi_let hF ey102
          have by102 : y102.toInt = (nj115_91 0 37).toInt := congrArg Int32.toInt ey102
          refine lv_icmp_ge (tgt := 130) hx hb dX12_meetRoute_122 (by decide) (fun c_103 => ?_) (fun c_103 => ?_)
          · have hF := (if_pos c_103).symm.trans hF
            have c_103 : y102.toInt ≤ j5_115_91.toInt := il_le c_103
            refine lv_aload_n hx hb dX12_meetRoute_130 rfl (lv_at hl 0 rfl) ?_
            refine va_get (D := (dC, dI)) (ci := 12) (v := .int (nj115_91 0 37)) (C := RX12) (T := TX12) (N := 46) hx hb hts inG12 hown hK hP 0 (gM_0 cs ad nj115_91) rfl 37 (by decide) (hts _ (List.mem_cons_of_mem _ mw_5_78)) (fun _ h9 => h9) rfl dX12_meetRoute_131 ?_
            refine lq_i y102 ey102.symm ?_
            refine va_put (D := (dC, dI)) (ci := 12) (v := .int y102) (ty := .int) (C := RX12) (T := TX12) (N := 46) hx hb hts inG12 tyX12 tyX12_ok nmX12 hown hK hP (wR_D nj115_91 hD) hS 0 (gM_0 cs ad nj115_91) rfl 37 (by decide) (hts _ (List.mem_cons_of_mem _ mw_5_78)) (fun _ h9 => h9) rfl (by decide +kernel) rfl rfl (Nat.le_of_ble_eq_true rfl) dX12_meetRoute_134 (fun H locs hP _ hS => ?_)
            simp only [List.set_cons_succ, List.set_cons_zero] at hP
            refine wr_gen (upd (nj115_91 0) 37 y102) hP ((hM_0_37 cs ad _ _)) (fun nu104 hn104 hP => ?_)
            have hF := mi_let hF hn104.symm
            have ok := tM_0_37 ok hn104
            have ez105 : y19 = nu104 0 39 := ey19.trans (up_f hn104 (by decide)).symm
            have ez106 : y20 = nu104 0 33 := ey20.trans (up_f hn104 (by decide)).symm
            have ez107 : y21 = nu104 0 35 := ey21.trans (up_f hn104 (by decide)).symm
            have kp108 : (∀ k f : Nat, Nat.testBit 510 (gpM k f) = true → nu104 k f = mu k f) := kp_f hn104 (by decide) kj115_91_0
            have ez109 : y102 = nu104 0 37 := up_v hn104
            exact join137_115  nu104 _ _ _  (by first | assumption | (rw [← ez105, ← ez106, ← ez107, ey19, ey20, ey21]; assumption) | (have hb110 := congrArg Int32.toInt ez105; have hb111 := congrArg Int32.toInt ez106; have hb112 := congrArg Int32.toInt ez107; omega)) (by first | assumption | (rw [← ez105, ey19]; assumption) | (have hb113 := congrArg Int32.toInt ez105; omega)) ok hP  kp108 hF hS (lv_sub hl [0, 1, 2, 3, 4, 5] rfl)
          · have hF := (if_neg c_103).symm.trans hF
            have c_103 : j5_115_91.toInt < y102.toInt := il_nle c_103
            refine lv_iload hx hb dX12_meetRoute_125 (lv_at hl 5 rfl) ?_
            refine lv_goto (tgt := 134) hx hb dX12_meetRoute_127 (by decide) ?_
            refine va_put (D := (dC, dI)) (ci := 12) (v := .int j5_115_91) (ty := .int) (C := RX12) (T := TX12) (N := 46) hx hb hts inG12 tyX12 tyX12_ok nmX12 hown hK hP (wR_D nj115_91 hD) hS 0 (gM_0 cs ad nj115_91) rfl 37 (by decide) (hts _ (List.mem_cons_of_mem _ mw_5_78)) (fun _ h9 => h9) rfl (by decide +kernel) rfl rfl (Nat.le_of_ble_eq_true rfl) dX12_meetRoute_134 (fun H locs hP _ hS => ?_)
            simp only [List.set_cons_succ, List.set_cons_zero] at hP
            refine wr_gen (upd (nj115_91 0) 37 j5_115_91) hP ((hM_0_37 cs ad _ _)) (fun nu114 hn114 hP => ?_)
            have hF := mi_let hF hn114.symm
            have ok := tM_0_37 ok hn114
            have ez115 : y19 = nu114 0 39 := ey19.trans (up_f hn114 (by decide)).symm
            have ez116 : y20 = nu114 0 33 := ey20.trans (up_f hn114 (by decide)).symm
            have ez117 : y21 = nu114 0 35 := ey21.trans (up_f hn114 (by decide)).symm
            have kp118 : (∀ k f : Nat, Nat.testBit 510 (gpM k f) = true → nu114 k f = mu k f) := kp_f hn114 (by decide) kj115_91_0
            have ez119 : j5_115_91 = nu114 0 37 := up_v hn114
            exact join137_115  nu114 _ _ _  (by first | assumption | (rw [← ez115, ← ez116, ← ez117, ey19, ey20, ey21]; assumption) | (have hb120 := congrArg Int32.toInt ez115; have hb121 := congrArg Int32.toInt ez116; have hb122 := congrArg Int32.toInt ez117; omega)) (by first | assumption | (rw [← ez115, ey19]; assumption) | (have hb123 := congrArg Int32.toInt ez115; omega)) ok hP  kp118 hF hS (lv_sub hl [0, 1, 2, 3, 4, 5] rfl)
        refine lv_iload_n hx hb dX12_meetRoute_91 rfl (lv_at hl 3 rfl) ?_
        refine lv_if_ne (tgt := 99) hx hb dX12_meetRoute_92 (by decide) (fun c_124 => ?_) (fun c_124 => ?_)
        · have hF := (if_neg c_124).symm.trans hF
          have c_124 : ¬ vp.toInt = 0 := il_ne c_124
          refine lv_iload_n hx hb dX12_meetRoute_99 rfl (lv_at hl 3 rfl) ?_
          refine lv_aload_n hx hb dX12_meetRoute_100 rfl (lv_at hl 0 rfl) ?_
          refine lv_aload_n hx hb dX12_meetRoute_101 rfl (lv_at hl 0 rfl) ?_
          refine va_get (D := (dC, dI)) (ci := 12) (v := .int (nj91_63 0 39)) (C := RX12) (T := TX12) (N := 46) hx hb hts inG12 hown hK hP 0 (gM_0 cs ad nj91_63) rfl 39 (by decide) (hts _ (List.mem_cons_of_mem _ mw_5_80)) (fun _ h9 => h9) rfl dX12_meetRoute_102 ?_
          refine lq_i y16 ey16.symm ?_
          refine lv_iconst (v := 3) hx hb dX12_meetRoute_105 (by decide) ?_
          refine cr_i (va_runV (As := [.int y16, .int 3]) (rest := [.int vp]) ⟨hx, hb, hml, hown, hts⟩ (sm_letterOf l dC dI cs ad nj91_63 ok H hP y16 3 (by have h51 : (3 : Int32).toInt = 3 := rfl; omega)) (cwV 2 hts (wU_V mw_6_48 mw_6_45 mw_6_47 mw_0_38 mw_1_13) rfl rfl rfl (by decide +kernel) ⟨Nat.le_of_ble_eq_true rfl, Nat.le_of_ble_eq_true rfl⟩) ⟨sz_c, va_recv hK hP (ci := 12) (q0 := 0) rfl (gM_0 cs ad nj91_63), sz_m hK hz⟩ rfl rfl hl.1 rfl (lv_room (Nat.le_of_ble_eq_true rfl)) dX12_meetRoute_106 ⟨Nat.zero_le _, Nat.zero_le _⟩) hS (fun r125 hw125 locs hS => ?_)
          obtain ⟨hfe125, hw125⟩ := hw125
          have hF := mi_let hF hfe125
          refine lv_iload hx hb dX12_meetRoute_109 (lv_at hl 4 rfl) ?_
          refine lv_imul hx hb dX12_meetRoute_111 ?_
          refine lv_topi (fun t126 et126 => ?_)
          have hF := mi_let hF et126
          refine lv_iadd hx hb dX12_meetRoute_112 ?_
          refine lv_topi (fun t127 et127 => ?_)
          have hF := mi_let hF et127
          refine lv_istore (lv' := [(5, .int t127), (0, .ref (ad 0)), (1, .int vn), (2, .int vs), (3, .int vp), (4, .int j4_91_63)]) hx hb dX12_meetRoute_113 hl (by decide) rfl (fun ls hl => ?_)
          exact join115_91 (t127) nj91_63 _ _ _  (by first | assumption | (have hb128 := congrArg Int32.toInt ey16; have hb129 := congrArg Int32.toInt ey17; have hb130 := congrArg Int32.toInt ey18; omega)) (by first | assumption | (have hb131 := congrArg Int32.toInt ey16; omega)) ok hP  kj91_63_0 hF hS (lv_sub hl [1, 2, 3, 4, 5, 0] rfl)
        · have hF := (if_pos c_124).symm.trans hF
          have c_124 : vp.toInt = 0 := il_eq c_124
          refine lv_iconst (v := 0) hx hb dX12_meetRoute_95 (by decide) ?_
          refine lv_goto (tgt := 113) hx hb dX12_meetRoute_96 (by decide) ?_
          refine lv_istore (lv' := [(5, .int 0), (0, .ref (ad 0)), (1, .int vn), (2, .int vs), (3, .int vp), (4, .int j4_91_63)]) hx hb dX12_meetRoute_113 hl (by decide) rfl (fun ls hl => ?_)
          exact join115_91 (0) nj91_63 _ _ _  (by have h80 : (0 : Int32).toInt = 0 := rfl; have hb132 := congrArg Int32.toInt ey16; have hb133 := congrArg Int32.toInt ey17; have hb134 := congrArg Int32.toInt ey18; omega) (by have h80 : (0 : Int32).toInt = 0 := rfl; have hb135 := congrArg Int32.toInt ey16; omega) ok hP  kj91_63_0 hF hS (lv_sub hl [1, 2, 3, 4, 5, 0] rfl)
      refine lv_iload_n hx hb dX12_meetRoute_63 rfl (lv_at hl 1 rfl) ?_
      refine lv_iconst (v := 2) hx hb dX12_meetRoute_64 (by decide) ?_
      refine lv_isub hx hb dX12_meetRoute_65 ?_
      refine lv_topi (fun t136 et136 => ?_)
      have hF := mi_let hF et136
      have at136 : t136.toInt = vn.toInt - 2 := by rw [et136]; exact tI_sub (rfl : vn.toInt = _) (rfl : (2 : Int32).toInt = 2) (by omega) (by omega)
      refine lv_aload_n hx hb dX12_meetRoute_66 rfl (lv_at hl 0 rfl) ?_
      refine lv_aload_n hx hb dX12_meetRoute_67 rfl (lv_at hl 0 rfl) ?_
      refine va_get (D := (dC, dI)) (ci := 12) (v := .int (nj53_10 0 39)) (C := RX12) (T := TX12) (N := 46) hx hb hts inG12 hown hK hP 0 (gM_0 cs ad nj53_10) rfl 39 (by decide) (hts _ (List.mem_cons_of_mem _ mw_5_80)) (fun _ h9 => h9) rfl dX12_meetRoute_68 ?_
      refine lq_i y12 ey12.symm ?_
      refine lv_bipush (v := 8) hx hb dX12_meetRoute_71 (by decide) ?_
      refine cr_i (va_runV (As := [.int y12, .int 8]) (rest := [.int t136]) ⟨hx, hb, hml, hown, hts⟩ (sm_letterOf l dC dI cs ad nj53_10 ok H hP y12 8 (by have h51 : (8 : Int32).toInt = 8 := rfl; omega)) (cwV 2 hts (wU_V mw_6_48 mw_6_45 mw_6_47 mw_0_38 mw_1_13) rfl rfl rfl (by decide +kernel) ⟨Nat.le_of_ble_eq_true rfl, Nat.le_of_ble_eq_true rfl⟩) ⟨sz_c, va_recv hK hP (ci := 12) (q0 := 0) rfl (gM_0 cs ad nj53_10), sz_m hK hz⟩ rfl rfl hl.1 rfl (lv_room (Nat.le_of_ble_eq_true rfl)) dX12_meetRoute_73 ⟨Nat.zero_le _, Nat.zero_le _⟩) hS (fun r137 hw137 locs hS => ?_)
      obtain ⟨hfe137, hw137⟩ := hw137
      have hF := mi_let hF hfe137
      refine lv_aload_n hx hb dX12_meetRoute_76 rfl (lv_at hl 0 rfl) ?_
      refine va_get (D := (dC, dI)) (ci := 12) (v := .int (nj53_10 0 14)) (C := RX12) (T := TX12) (N := 46) hx hb hts inG12 hown hK hP 0 (gM_0 cs ad nj53_10) rfl 14 (by decide) (hts _ (List.mem_cons_of_mem _ mw_5_55)) (fun _ h9 => h9) rfl dX12_meetRoute_77 ?_
      refine lv_topi (fun y138 ey138 => ?_)
      have hF := mi_let hF ey138
      have by138 : y138.toInt = (nj53_10 0 14).toInt := congrArg Int32.toInt ey138
      refine lv_icmp_ne (tgt := 87) hx hb dX12_meetRoute_80 (by decide) (fun c_139 => ?_) (fun c_139 => ?_)
      · have hF := (if_neg c_139).symm.trans hF
        have c_139 : ¬ r137.toInt = y138.toInt := il_ne c_139
        refine lv_iconst (v := 0) hx hb dX12_meetRoute_87 (by decide) ?_
        refine lv_iadd hx hb dX12_meetRoute_88 ?_
        refine lv_topi (fun t140 et140 => ?_)
        have hF := mi_let hF et140
        have at140 : t140.toInt = t136.toInt + 0 := by rw [et140]; exact tI_add (rfl : t136.toInt = _) (rfl : (0 : Int32).toInt = 0) (by omega) (by omega)
        refine lv_istore (lv' := [(4, .int t140), (0, .ref (ad 0)), (1, .int vn), (2, .int vs), (3, .int vp)]) hx hb dX12_meetRoute_89 hl (by decide) rfl (fun ls hl => ?_)
        exact join91_63 (t140) nj53_10 _ _ _  (by first | assumption | (have hb141 := congrArg Int32.toInt ey12; have hb142 := congrArg Int32.toInt ey13; have hb143 := congrArg Int32.toInt ey14; omega)) (by first | assumption | (have hb144 := congrArg Int32.toInt ey12; omega)) ok hP  kj53_10_0 hF hS (lv_sub hl [1, 2, 3, 4, 0] rfl)
      · have hF := (if_pos c_139).symm.trans hF
        have c_139 : r137.toInt = y138.toInt := il_eq c_139
        refine lv_iconst (v := 1) hx hb dX12_meetRoute_83 (by decide) ?_
        refine lv_goto (tgt := 88) hx hb dX12_meetRoute_84 (by decide) ?_
        refine lv_iadd hx hb dX12_meetRoute_88 ?_
        refine lv_topi (fun t145 et145 => ?_)
        have hF := mi_let hF et145
        have at145 : t145.toInt = t136.toInt + 1 := by rw [et145]; exact va1 (by omega)
        refine lv_istore (lv' := [(4, .int t145), (0, .ref (ad 0)), (1, .int vn), (2, .int vs), (3, .int vp)]) hx hb dX12_meetRoute_89 hl (by decide) rfl (fun ls hl => ?_)
        exact join91_63 (t145) nj53_10 _ _ _  (by first | assumption | (have hb146 := congrArg Int32.toInt ey12; have hb147 := congrArg Int32.toInt ey13; have hb148 := congrArg Int32.toInt ey14; omega)) (by first | assumption | (have hb149 := congrArg Int32.toInt ey12; omega)) ok hP  kj53_10_0 hF hS (lv_sub hl [1, 2, 3, 4, 0] rfl)
    · have hF := (if_pos c_15).symm.trans hF
      have c_15 : y12.toInt = -9 := il_eq c_15
      exact W.vret hx hb hr (fun t ht hW => ⟨⟨nj53_10, rfl, ⟨hF.trans hfz.symm, ok, (by first | assumption | (have hb150 := congrArg Int32.toInt ey12; have hb151 := congrArg Int32.toInt ey13; have hb152 := congrArg Int32.toInt ey14; omega)), kj53_10_0⟩, by first | (subst ht; exact hP) | (rw [ht]; exact hP) | (show va_P (dC, dI) vwCl (wR 21 ad (EM cs ad) nj53_10) t.heap; rw [ht]; exact hP)⟩, hS.F ht⟩) hS.2.2 dX12_meetRoute_62
  refine lv_iload_n hx hb dX12_meetRoute_10 rfl (lv_at hl 3 rfl) ?_
  refine lv_aload_n hx hb dX12_meetRoute_11 rfl (lv_at hl 0 rfl) ?_
  refine va_get (D := (dC, dI)) (ci := 12) (v := .int (nu6 0 31)) (C := RX12) (T := TX12) (N := 46) hx hb hts inG12 hown hK hP 0 (gM_0 cs ad nu6) rfl 31 (by decide) (hts _ (List.mem_cons_of_mem _ mw_5_72)) (fun _ h9 => h9) rfl dX12_meetRoute_12 ?_
  refine lv_topi (fun y153 ey153 => ?_)
  have hF := mi_let hF ey153
  have by153 : y153.toInt = (nu6 0 31).toInt := congrArg Int32.toInt ey153
  refine lv_icmp_lt (tgt := 34) hx hb dX12_meetRoute_15 (by decide) (fun c_154 => ?_) (fun c_154 => ?_)
  · have hF := (if_pos c_154).symm.trans hF
    have c_154 : vp.toInt < y153.toInt := il_lt c_154
    refine lv_aload_n hx hb dX12_meetRoute_34 rfl (lv_at hl 0 rfl) ?_
    refine lv_iload_n hx hb dX12_meetRoute_35 rfl (lv_at hl 3 rfl) ?_
    refine va_put (D := (dC, dI)) (ci := 12) (v := .int vp) (ty := .int) (C := RX12) (T := TX12) (N := 46) hx hb hts inG12 tyX12 tyX12_ok nmX12 hown hK hP (wR_D nu6 hD) hS 0 (gM_0 cs ad nu6) rfl 31 (by decide) (hts _ (List.mem_cons_of_mem _ mw_5_72)) (fun _ h9 => h9) rfl (by decide +kernel) rfl rfl (Nat.le_of_ble_eq_true rfl) dX12_meetRoute_36 (fun H locs hP _ hS => ?_)
    simp only [List.set_cons_succ, List.set_cons_zero] at hP
    refine wr_gen (upd (nu6 0) 31 vp) hP ((hM_0_31 cs ad _ _)) (fun nu155 hn155 hP => ?_)
    have hF := mi_let hF hn155.symm
    have ok := tM_0_31 ok hn155
    have ez156 : y1 = nu155 0 39 := ez7.trans (up_f hn155 (by decide)).symm
    have ez157 : y2 = nu155 0 33 := ez8.trans (up_f hn155 (by decide)).symm
    have ez158 : y3 = nu155 0 35 := ez9.trans (up_f hn155 (by decide)).symm
    have ez159 : t5 = nu155 0 30 := ez11.trans (up_f hn155 (by decide)).symm
    have kp160 : (∀ k f : Nat, Nat.testBit 510 (gpM k f) = true → nu155 k f = mu k f) := kp_f hn155 (by decide) kp10
    have ez161 : vp = nu155 0 31 := up_v hn155
    refine lv_aload_n hx hb dX12_meetRoute_39 rfl (lv_at hl 0 rfl) ?_
    refine lv_iload_n hx hb dX12_meetRoute_40 rfl (lv_at hl 1 rfl) ?_
    refine va_put (D := (dC, dI)) (ci := 12) (v := .int vn) (ty := .int) (C := RX12) (T := TX12) (N := 46) hx hb hts inG12 tyX12 tyX12_ok nmX12 hown hK hP (wR_D nu155 hD) hS 0 (gM_0 cs ad nu155) rfl 32 (by decide) (hts _ (List.mem_cons_of_mem _ mw_5_73)) (fun _ h9 => h9) rfl (by decide +kernel) rfl rfl (Nat.le_of_ble_eq_true rfl) dX12_meetRoute_41 (fun H locs hP _ hS => ?_)
    simp only [List.set_cons_succ, List.set_cons_zero] at hP
    refine wr_gen (upd (nu155 0) 32 vn) hP ((hM_0_32 cs ad _ _)) (fun nu162 hn162 hP => ?_)
    have hF := mi_let hF hn162.symm
    have ok := tM_0_32 ok hn162 (by omega)
    have ez163 : y1 = nu162 0 39 := ez156.trans (up_f hn162 (by decide)).symm
    have ez164 : y2 = nu162 0 33 := ez157.trans (up_f hn162 (by decide)).symm
    have ez165 : y3 = nu162 0 35 := ez158.trans (up_f hn162 (by decide)).symm
    have ez166 : t5 = nu162 0 30 := ez159.trans (up_f hn162 (by decide)).symm
    have ez167 : vp = nu162 0 31 := ez161.trans (up_f hn162 (by decide)).symm
    have kp168 : (∀ k f : Nat, Nat.testBit 510 (gpM k f) = true → nu162 k f = mu k f) := kp_f hn162 (by decide) kp160
    have ez169 : vn = nu162 0 32 := up_v hn162
    refine lv_aload_n hx hb dX12_meetRoute_44 rfl (lv_at hl 0 rfl) ?_
    refine lv_aload_n hx hb dX12_meetRoute_45 rfl (lv_at hl 0 rfl) ?_
    refine va_get (D := (dC, dI)) (ci := 12) (v := .ref (ad 17)) (C := RX12) (T := TX12) (N := 46) hx hb hts inG12 hown hK hP 0 (gM_0 cs ad nu162) rfl 27 (by decide) (hts _ (List.mem_cons_of_mem _ mw_5_68)) (fun _ h9 => h9) rfl dX12_meetRoute_46 ?_
    refine lv_iload_n hx hb dX12_meetRoute_49 rfl (lv_at hl 1 rfl) ?_
    have hFc := fr_all (wR_D nu162 hD) hS hA
    refine va_callv (va_runV (As := [.ref (ad 17), .int vn]) (rest := []) ⟨hx, hb, hml, hown, hts⟩ (sm_copyRoute17 l dC dI cs ad nu162 ok H hP ((wR_D nu162 hD).weaken (fun _ _ _ _ => trivial)) vn (by omega)) (cwV 2 hts (wU_V mw_6_191 mw_6_188 mw_6_190 mw_0_57 mw_1_13) rfl rfl rfl (by decide +kernel) ⟨Nat.le_of_ble_eq_true rfl, Nat.le_of_ble_eq_true rfl⟩) ⟨sz_c, va_recv hK hP (ci := 12) (q0 := 0) rfl (gM_0 cs ad nu162), sz_m hK hz⟩ rfl rfl hl.1 rfl (lv_room (Nat.le_of_ble_eq_true rfl)) dX12_meetRoute_50 ⟨Nat.zero_le _, Nat.zero_le _⟩) hS (fun q _ h => hFc q h) hFc (fun xi170 t H170 locs ht hvm hw170 hB hz1 hk1 hS => ?_)
    have hP : va_P (dC, dI) vwCl (wR 21 ad (EM cs ad) xi170) H170 := by rw [← ht]; exact hB
    obtain ⟨hfe170, ok, hw170, hkp170_0, hkp170_1⟩ := hw170
    have hF := mi_let hF hfe170
    have ez171 : y1 = xi170 0 39 := ez163.trans (congrFun (hkp170_0 0 (by decide) (by decide)) 39).symm
    have ez172 : y2 = xi170 0 33 := ez164.trans (congrFun (hkp170_0 0 (by decide) (by decide)) 33).symm
    have ez173 : y3 = xi170 0 35 := ez165.trans (congrFun (hkp170_0 0 (by decide) (by decide)) 35).symm
    have ez174 : t5 = xi170 0 30 := ez166.trans (congrFun (hkp170_0 0 (by decide) (by decide)) 30).symm
    have ez175 : vp = xi170 0 31 := ez167.trans (congrFun (hkp170_0 0 (by decide) (by decide)) 31).symm
    have ez176 : vn = xi170 0 32 := ez169.trans (congrFun (hkp170_0 0 (by decide) (by decide)) 32).symm
    have kp177 : (∀ k f : Nat, Nat.testBit 510 (gpM k f) = true → xi170 k f = mu k f) := kp_t hkp170_1 (by decide) kp168
    exact join53_10  xi170 _ _ _  (by first | assumption | (rw [← ez171, ← ez172, ← ez173, ey1, ey2, ey3]; assumption) | (have hb178 := congrArg Int32.toInt ez171; have hb179 := congrArg Int32.toInt ez172; have hb180 := congrArg Int32.toInt ez173; omega)) ok hP  kp177 hF hS (lv_sub hl [0, 1, 2, 3] rfl)
  · have hF := (if_neg c_154).symm.trans hF
    have c_154 : y153.toInt ≤ vp.toInt := il_nlt c_154
    refine lv_iload_n hx hb dX12_meetRoute_18 rfl (lv_at hl 3 rfl) ?_
    refine lv_aload_n hx hb dX12_meetRoute_19 rfl (lv_at hl 0 rfl) ?_
    refine va_get (D := (dC, dI)) (ci := 12) (v := .int (nu6 0 31)) (C := RX12) (T := TX12) (N := 46) hx hb hts inG12 hown hK hP 0 (gM_0 cs ad nu6) rfl 31 (by decide) (hts _ (List.mem_cons_of_mem _ mw_5_72)) (fun _ h9 => h9) rfl dX12_meetRoute_20 ?_
    refine lq_i y153 ey153.symm ?_
    refine lv_icmp_ne (tgt := 53) hx hb dX12_meetRoute_23 (by decide) (fun c_181 => ?_) (fun c_181 => ?_)
    · have hF := (if_neg c_181).symm.trans hF
      have c_181 : ¬ vp.toInt = y153.toInt := il_ne c_181
      exact join53_10  nu6 _ _ _  (by first | assumption | (rw [← ez7, ← ez8, ← ez9, ey1, ey2, ey3]; assumption) | (have hb182 := congrArg Int32.toInt ez7; have hb183 := congrArg Int32.toInt ez8; have hb184 := congrArg Int32.toInt ez9; omega)) ok hP  kp10 hF hS (lv_sub hl [0, 1, 2, 3] rfl)
    · have hF := (if_pos c_181).symm.trans hF
      have c_181 : vp.toInt = y153.toInt := il_eq c_181
      refine lv_iload_n hx hb dX12_meetRoute_26 rfl (lv_at hl 1 rfl) ?_
      refine lv_aload_n hx hb dX12_meetRoute_27 rfl (lv_at hl 0 rfl) ?_
      refine va_get (D := (dC, dI)) (ci := 12) (v := .int (nu6 0 32)) (C := RX12) (T := TX12) (N := 46) hx hb hts inG12 hown hK hP 0 (gM_0 cs ad nu6) rfl 32 (by decide) (hts _ (List.mem_cons_of_mem _ mw_5_73)) (fun _ h9 => h9) rfl dX12_meetRoute_28 ?_
      refine lv_topi (fun y185 ey185 => ?_)
      have hF := mi_let hF ey185
      have by185 : y185.toInt = (nu6 0 32).toInt := congrArg Int32.toInt ey185
      have gy185 : 0 ≤ y185.toInt ∧ y185.toInt ≤ 7 := by rw [ey185]; exact rM_0_32 ok
      refine lv_icmp_ge (tgt := 53) hx hb dX12_meetRoute_31 (by decide) (fun c_186 => ?_) (fun c_186 => ?_)
      · have hF := (if_pos c_186).symm.trans hF
        have c_186 : y185.toInt ≤ vn.toInt := il_le c_186
        exact join53_10  nu6 _ _ _  (by first | assumption | (rw [← ez7, ← ez8, ← ez9, ey1, ey2, ey3]; assumption) | (have hb187 := congrArg Int32.toInt ez7; have hb188 := congrArg Int32.toInt ez8; have hb189 := congrArg Int32.toInt ez9; omega)) ok hP  kp10 hF hS (lv_sub hl [0, 1, 2, 3] rfl)
      · have hF := (if_neg c_186).symm.trans hF
        have c_186 : vn.toInt < y185.toInt := il_nle c_186
        refine lv_aload_n hx hb dX12_meetRoute_34 rfl (lv_at hl 0 rfl) ?_
        refine lv_iload_n hx hb dX12_meetRoute_35 rfl (lv_at hl 3 rfl) ?_
        refine va_put (D := (dC, dI)) (ci := 12) (v := .int vp) (ty := .int) (C := RX12) (T := TX12) (N := 46) hx hb hts inG12 tyX12 tyX12_ok nmX12 hown hK hP (wR_D nu6 hD) hS 0 (gM_0 cs ad nu6) rfl 31 (by decide) (hts _ (List.mem_cons_of_mem _ mw_5_72)) (fun _ h9 => h9) rfl (by decide +kernel) rfl rfl (Nat.le_of_ble_eq_true rfl) dX12_meetRoute_36 (fun H locs hP _ hS => ?_)
        simp only [List.set_cons_succ, List.set_cons_zero] at hP
        refine wr_gen (upd (nu6 0) 31 vp) hP ((hM_0_31 cs ad _ _)) (fun nu190 hn190 hP => ?_)
        have hF := mi_let hF hn190.symm
        have ok := tM_0_31 ok hn190
        have ez191 : y1 = nu190 0 39 := ez7.trans (up_f hn190 (by decide)).symm
        have ez192 : y2 = nu190 0 33 := ez8.trans (up_f hn190 (by decide)).symm
        have ez193 : y3 = nu190 0 35 := ez9.trans (up_f hn190 (by decide)).symm
        have ez194 : t5 = nu190 0 30 := ez11.trans (up_f hn190 (by decide)).symm
        have ez195 : y185 = nu190 0 32 := ey185.trans (up_f hn190 (by decide)).symm
        have kp196 : (∀ k f : Nat, Nat.testBit 510 (gpM k f) = true → nu190 k f = mu k f) := kp_f hn190 (by decide) kp10
        have ez197 : vp = nu190 0 31 := up_v hn190
        refine lv_aload_n hx hb dX12_meetRoute_39 rfl (lv_at hl 0 rfl) ?_
        refine lv_iload_n hx hb dX12_meetRoute_40 rfl (lv_at hl 1 rfl) ?_
        refine va_put (D := (dC, dI)) (ci := 12) (v := .int vn) (ty := .int) (C := RX12) (T := TX12) (N := 46) hx hb hts inG12 tyX12 tyX12_ok nmX12 hown hK hP (wR_D nu190 hD) hS 0 (gM_0 cs ad nu190) rfl 32 (by decide) (hts _ (List.mem_cons_of_mem _ mw_5_73)) (fun _ h9 => h9) rfl (by decide +kernel) rfl rfl (Nat.le_of_ble_eq_true rfl) dX12_meetRoute_41 (fun H locs hP _ hS => ?_)
        simp only [List.set_cons_succ, List.set_cons_zero] at hP
        refine wr_gen (upd (nu190 0) 32 vn) hP ((hM_0_32 cs ad _ _)) (fun nu198 hn198 hP => ?_)
        have hF := mi_let hF hn198.symm
        have ok := tM_0_32 ok hn198 (by omega)
        have ez199 : y1 = nu198 0 39 := ez191.trans (up_f hn198 (by decide)).symm
        have ez200 : y2 = nu198 0 33 := ez192.trans (up_f hn198 (by decide)).symm
        have ez201 : y3 = nu198 0 35 := ez193.trans (up_f hn198 (by decide)).symm
        have ez202 : t5 = nu198 0 30 := ez194.trans (up_f hn198 (by decide)).symm
        have ez203 : vp = nu198 0 31 := ez197.trans (up_f hn198 (by decide)).symm
        have kp204 : (∀ k f : Nat, Nat.testBit 510 (gpM k f) = true → nu198 k f = mu k f) := kp_f hn198 (by decide) kp196
        have ez205 : vn = nu198 0 32 := up_v hn198
        refine lv_aload_n hx hb dX12_meetRoute_44 rfl (lv_at hl 0 rfl) ?_
        refine lv_aload_n hx hb dX12_meetRoute_45 rfl (lv_at hl 0 rfl) ?_
        refine va_get (D := (dC, dI)) (ci := 12) (v := .ref (ad 17)) (C := RX12) (T := TX12) (N := 46) hx hb hts inG12 hown hK hP 0 (gM_0 cs ad nu198) rfl 27 (by decide) (hts _ (List.mem_cons_of_mem _ mw_5_68)) (fun _ h9 => h9) rfl dX12_meetRoute_46 ?_
        refine lv_iload_n hx hb dX12_meetRoute_49 rfl (lv_at hl 1 rfl) ?_
        have hFc := fr_all (wR_D nu198 hD) hS hA
        refine va_callv (va_runV (As := [.ref (ad 17), .int vn]) (rest := []) ⟨hx, hb, hml, hown, hts⟩ (sm_copyRoute17 l dC dI cs ad nu198 ok H hP ((wR_D nu198 hD).weaken (fun _ _ _ _ => trivial)) vn (by omega)) (cwV 2 hts (wU_V mw_6_191 mw_6_188 mw_6_190 mw_0_57 mw_1_13) rfl rfl rfl (by decide +kernel) ⟨Nat.le_of_ble_eq_true rfl, Nat.le_of_ble_eq_true rfl⟩) ⟨sz_c, va_recv hK hP (ci := 12) (q0 := 0) rfl (gM_0 cs ad nu198), sz_m hK hz⟩ rfl rfl hl.1 rfl (lv_room (Nat.le_of_ble_eq_true rfl)) dX12_meetRoute_50 ⟨Nat.zero_le _, Nat.zero_le _⟩) hS (fun q _ h => hFc q h) hFc (fun xi206 t H206 locs ht hvm hw206 hB hz1 hk1 hS => ?_)
        have hP : va_P (dC, dI) vwCl (wR 21 ad (EM cs ad) xi206) H206 := by rw [← ht]; exact hB
        obtain ⟨hfe206, ok, hw206, hkp206_0, hkp206_1⟩ := hw206
        have hF := mi_let hF hfe206
        have ez207 : y1 = xi206 0 39 := ez199.trans (congrFun (hkp206_0 0 (by decide) (by decide)) 39).symm
        have ez208 : y2 = xi206 0 33 := ez200.trans (congrFun (hkp206_0 0 (by decide) (by decide)) 33).symm
        have ez209 : y3 = xi206 0 35 := ez201.trans (congrFun (hkp206_0 0 (by decide) (by decide)) 35).symm
        have ez210 : t5 = xi206 0 30 := ez202.trans (congrFun (hkp206_0 0 (by decide) (by decide)) 30).symm
        have ez211 : vp = xi206 0 31 := ez203.trans (congrFun (hkp206_0 0 (by decide) (by decide)) 31).symm
        have ez212 : vn = xi206 0 32 := ez205.trans (congrFun (hkp206_0 0 (by decide) (by decide)) 32).symm
        have kp213 : (∀ k f : Nat, Nat.testBit 510 (gpM k f) = true → xi206 k f = mu k f) := kp_t hkp206_1 (by decide) kp204
        exact join53_10  xi206 _ _ _  (by first | assumption | (rw [← ez207, ← ez208, ← ez209, ey1, ey2, ey3]; assumption) | (have hb214 := congrArg Int32.toInt ez207; have hb215 := congrArg Int32.toInt ez208; have hb216 := congrArg Int32.toInt ez209; omega)) ok hP  kp213 hF hS (lv_sub hl [0, 1, 2, 3] rfl)
theorem mw_5_79 : (Cond.fieldLink RX12 241 "DearLettersModel" "pursesCount" "Z" : Cond) ∈ lw_good := lg_at 5 79 rfl rfl
theorem mw_5_70 : (Cond.fieldLink RX12 245 "DearLettersModel" "goal" "I" : Cond) ∈ lw_good := lg_at 5 70 rfl rfl
theorem mw_6_183 : (Cond.code yX12_routeOn cX12_routeOn 8 none : Cond) ∈ lw_good := lg_at 6 183 rfl rfl
theorem mw_6_180 : (Cond.methodLink RX12 251 yX12_routeOn : Cond) ∈ lw_good := lg_at 6 180 rfl rfl
theorem mw_6_182 : (Cond.instanceMethod yX12_routeOn : Cond) ∈ lw_good := lg_at 6 182 rfl rfl
theorem mw_0_55 : (Cond.selects RX12 yX12_routeOn yX12_routeOn : Cond) ∈ lw_good := lg_at 0 55 rfl rfl
theorem mw_6_187 : (Cond.code yX12_meetRoute cX12_meetRoute 6 none : Cond) ∈ lw_good := lg_at 6 187 rfl rfl
theorem mw_6_184 : (Cond.methodLink RX12 248 yX12_meetRoute : Cond) ∈ lw_good := lg_at 6 184 rfl rfl
theorem mw_6_186 : (Cond.instanceMethod yX12_meetRoute : Cond) ∈ lw_good := lg_at 6 186 rfl rfl
theorem mw_0_56 : (Cond.selects RX12 yX12_meetRoute yX12_meetRoute : Cond) ∈ lw_good := lg_at 0 56 rfl rfl
theorem rM_0_38 {mu : Nat → Nat → Int32} (ok : okR loM hiM mu) : 0 ≤ (mu 0 38).toInt ∧ (mu 0 38).toInt ≤ 1 := ok 0 38
theorem tM_16_s {mu : Nat → Nat → Int32} (ok : okR loM hiM mu) {nu : Nat → Nat → Int32} {v : Int32} (f : Nat) (hn : va_up mu 16 (upd (mu 16) f v) = nu) (hv : 0 ≤ v.toInt ∧ v.toInt ≤ 6) : okR loM hiM nu := by
  subst hn
  exact okR_up ok 16 f v hv.1 hv.2
theorem lb_X12_routeOn_0 : dl_ck (cX12_routeOn.data.toList.drop 0) [42, 180, 0, 55, 27, 4, 100, 46, 54, 4, 42, 21, 4, 29, 182, 0, 179, 54, 5, 42, 21, 4, 182, 0, 167, 28, 2, 130, 126, 54, 6, 3] = true := by decide +kernel
theorem lb_X12_routeOn_1 : dl_ck (cX12_routeOn.data.toList.drop 32) [54, 7, 21, 7, 42, 180, 0, 136, 162, 0, 105, 21, 6, 21, 7, 184, 0, 157, 153, 0, 89, 42, 180, 0, 241, 153, 0, 15, 42, 180, 0, 31] = true := by decide +kernel
theorem lb_X12_routeOn_2 : dl_ck (cX12_routeOn.data.toList.drop 64) [21, 7, 46, 21, 5, 161, 0, 70, 42, 180, 0, 55, 27, 21, 7, 79, 21, 7, 42, 180, 0, 245, 160, 0, 27, 42, 27, 4, 96, 28, 4, 42] = true := by decide +kernel
theorem lb_X12_routeOn_3 : dl_ck (cX12_routeOn.data.toList.drop 96) [180, 0, 55, 3, 46, 120, 2, 130, 126, 21, 5, 182, 0, 248, 167, 0, 29, 42, 180, 0, 28, 21, 7, 46, 6, 159, 0, 18, 42, 27, 4, 96] = true := by decide +kernel
theorem lb_X12_routeOn_4 : dl_ck (cX12_routeOn.data.toList.drop 128) [28, 4, 21, 7, 120, 128, 21, 5, 182, 0, 251, 132, 7, 1, 167, 255, 148, 177] = true := by decide +kernel
theorem dX12_routeOn_0 : decode cX12_routeOn 0 = .ok (.aload_n 0, 1) := dx_42 (dl_at 0 0 lb_X12_routeOn_0 rfl)
theorem dX12_routeOn_1 : decode cX12_routeOn 1 = .ok (.getfield 55, 3) := dx_180 (a := 0) (b := 55) (dl_at 0 1 lb_X12_routeOn_0 rfl) (dl_at 0 2 lb_X12_routeOn_0 rfl) (dl_at 0 3 lb_X12_routeOn_0 rfl) rfl
theorem dX12_routeOn_4 : decode cX12_routeOn 4 = .ok (.iload_n 1, 1) := dx_27 (dl_at 0 4 lb_X12_routeOn_0 rfl)
theorem dX12_routeOn_5 : decode cX12_routeOn 5 = .ok (.iconst 1, 1) := dx_4 (dl_at 0 5 lb_X12_routeOn_0 rfl)
theorem dX12_routeOn_6 : decode cX12_routeOn 6 = .ok (.isub, 1) := dx_100 (dl_at 0 6 lb_X12_routeOn_0 rfl)
theorem dX12_routeOn_7 : decode cX12_routeOn 7 = .ok (.iaload, 1) := dx_46 (dl_at 0 7 lb_X12_routeOn_0 rfl)
theorem dX12_routeOn_8 : decode cX12_routeOn 8 = .ok (.istore 4, 2) := dx_54 (dl_at 0 8 lb_X12_routeOn_0 rfl) (dl_at 0 9 lb_X12_routeOn_0 rfl)
theorem dX12_routeOn_10 : decode cX12_routeOn 10 = .ok (.aload_n 0, 1) := dx_42 (dl_at 0 10 lb_X12_routeOn_0 rfl)
theorem dX12_routeOn_11 : decode cX12_routeOn 11 = .ok (.iload 4, 2) := dx_21 (dl_at 0 11 lb_X12_routeOn_0 rfl) (dl_at 0 12 lb_X12_routeOn_0 rfl)
theorem dX12_routeOn_13 : decode cX12_routeOn 13 = .ok (.iload_n 3, 1) := dx_29 (dl_at 0 13 lb_X12_routeOn_0 rfl)
theorem dX12_routeOn_14 : decode cX12_routeOn 14 = .ok (.invokevirtual 179, 3) := dx_182 (a := 0) (b := 179) (dl_at 0 14 lb_X12_routeOn_0 rfl) (dl_at 0 15 lb_X12_routeOn_0 rfl) (dl_at 0 16 lb_X12_routeOn_0 rfl) rfl
theorem dX12_routeOn_17 : decode cX12_routeOn 17 = .ok (.istore 5, 2) := dx_54 (dl_at 0 17 lb_X12_routeOn_0 rfl) (dl_at 0 18 lb_X12_routeOn_0 rfl)
theorem dX12_routeOn_19 : decode cX12_routeOn 19 = .ok (.aload_n 0, 1) := dx_42 (dl_at 0 19 lb_X12_routeOn_0 rfl)
theorem dX12_routeOn_20 : decode cX12_routeOn 20 = .ok (.iload 4, 2) := dx_21 (dl_at 0 20 lb_X12_routeOn_0 rfl) (dl_at 0 21 lb_X12_routeOn_0 rfl)
theorem dX12_routeOn_22 : decode cX12_routeOn 22 = .ok (.invokevirtual 167, 3) := dx_182 (a := 0) (b := 167) (dl_at 0 22 lb_X12_routeOn_0 rfl) (dl_at 0 23 lb_X12_routeOn_0 rfl) (dl_at 0 24 lb_X12_routeOn_0 rfl) rfl
theorem dX12_routeOn_25 : decode cX12_routeOn 25 = .ok (.iload_n 2, 1) := dx_28 (dl_at 0 25 lb_X12_routeOn_0 rfl)
theorem dX12_routeOn_26 : decode cX12_routeOn 26 = .ok (.iconst (-1), 1) := dx_2 (dl_at 0 26 lb_X12_routeOn_0 rfl)
theorem dX12_routeOn_27 : decode cX12_routeOn 27 = .ok (.ixor, 1) := dx_130 (dl_at 0 27 lb_X12_routeOn_0 rfl)
theorem dX12_routeOn_28 : decode cX12_routeOn 28 = .ok (.iand, 1) := dx_126 (dl_at 0 28 lb_X12_routeOn_0 rfl)
theorem dX12_routeOn_29 : decode cX12_routeOn 29 = .ok (.istore 6, 2) := dx_54 (dl_at 0 29 lb_X12_routeOn_0 rfl) (dl_at 0 30 lb_X12_routeOn_0 rfl)
theorem dX12_routeOn_31 : decode cX12_routeOn 31 = .ok (.iconst 0, 1) := dx_3 (dl_at 0 31 lb_X12_routeOn_0 rfl)
theorem dX12_routeOn_32 : decode cX12_routeOn 32 = .ok (.istore 7, 2) := dx_54 (dl_at 32 0 lb_X12_routeOn_1 rfl) (dl_at 32 1 lb_X12_routeOn_1 rfl)
theorem dX12_routeOn_34 : decode cX12_routeOn 34 = .ok (.iload 7, 2) := dx_21 (dl_at 32 2 lb_X12_routeOn_1 rfl) (dl_at 32 3 lb_X12_routeOn_1 rfl)
theorem dX12_routeOn_36 : decode cX12_routeOn 36 = .ok (.aload_n 0, 1) := dx_42 (dl_at 32 4 lb_X12_routeOn_1 rfl)
theorem dX12_routeOn_37 : decode cX12_routeOn 37 = .ok (.getfield 136, 3) := dx_180 (a := 0) (b := 136) (dl_at 32 5 lb_X12_routeOn_1 rfl) (dl_at 32 6 lb_X12_routeOn_1 rfl) (dl_at 32 7 lb_X12_routeOn_1 rfl) rfl
theorem dX12_routeOn_40 : decode cX12_routeOn 40 = .ok (.if_icmp .ge 105, 3) := dx_162 (a := 0) (b := 105) (dl_at 32 8 lb_X12_routeOn_1 rfl) (dl_at 32 9 lb_X12_routeOn_1 rfl) (dl_at 32 10 lb_X12_routeOn_1 rfl) sg16_105
theorem dX12_routeOn_145 : decode cX12_routeOn 145 = .ok (.return_, 1) := dx_177 (dl_at 128 17 lb_X12_routeOn_4 rfl)
theorem dX12_routeOn_43 : decode cX12_routeOn 43 = .ok (.iload 6, 2) := dx_21 (dl_at 32 11 lb_X12_routeOn_1 rfl) (dl_at 32 12 lb_X12_routeOn_1 rfl)
theorem dX12_routeOn_45 : decode cX12_routeOn 45 = .ok (.iload 7, 2) := dx_21 (dl_at 32 13 lb_X12_routeOn_1 rfl) (dl_at 32 14 lb_X12_routeOn_1 rfl)
theorem dX12_routeOn_47 : decode cX12_routeOn 47 = .ok (.invokestatic 157, 3) := dx_184 (a := 0) (b := 157) (dl_at 32 15 lb_X12_routeOn_1 rfl) (dl_at 32 16 lb_X12_routeOn_1 rfl) (dl_at 32 17 lb_X12_routeOn_1 rfl) rfl
theorem dX12_routeOn_50 : decode cX12_routeOn 50 = .ok (.ifCond .eq 89, 3) := dx_153 (a := 0) (b := 89) (dl_at 32 18 lb_X12_routeOn_1 rfl) (dl_at 32 19 lb_X12_routeOn_1 rfl) (dl_at 32 20 lb_X12_routeOn_1 rfl) sg16_89
theorem dX12_routeOn_139 : decode cX12_routeOn 139 = .ok (.iinc 7 1, 3) := dx_132 (dl_at 128 11 lb_X12_routeOn_4 rfl) (dl_at 128 12 lb_X12_routeOn_4 rfl) (dl_at 128 13 lb_X12_routeOn_4 rfl) sg8_1
theorem dX12_routeOn_142 : decode cX12_routeOn 142 = .ok (.goto (-108), 3) := dx_167 (a := 255) (b := 148) (dl_at 128 14 lb_X12_routeOn_4 rfl) (dl_at 128 15 lb_X12_routeOn_4 rfl) (dl_at 128 16 lb_X12_routeOn_4 rfl) sg16_65428
theorem dX12_routeOn_53 : decode cX12_routeOn 53 = .ok (.aload_n 0, 1) := dx_42 (dl_at 32 21 lb_X12_routeOn_1 rfl)
theorem dX12_routeOn_54 : decode cX12_routeOn 54 = .ok (.getfield 241, 3) := dx_180 (a := 0) (b := 241) (dl_at 32 22 lb_X12_routeOn_1 rfl) (dl_at 32 23 lb_X12_routeOn_1 rfl) (dl_at 32 24 lb_X12_routeOn_1 rfl) rfl
theorem dX12_routeOn_57 : decode cX12_routeOn 57 = .ok (.ifCond .eq 15, 3) := dx_153 (a := 0) (b := 15) (dl_at 32 25 lb_X12_routeOn_1 rfl) (dl_at 32 26 lb_X12_routeOn_1 rfl) (dl_at 32 27 lb_X12_routeOn_1 rfl) sg16_15
theorem dX12_routeOn_72 : decode cX12_routeOn 72 = .ok (.aload_n 0, 1) := dx_42 (dl_at 64 8 lb_X12_routeOn_2 rfl)
theorem dX12_routeOn_73 : decode cX12_routeOn 73 = .ok (.getfield 55, 3) := dx_180 (a := 0) (b := 55) (dl_at 64 9 lb_X12_routeOn_2 rfl) (dl_at 64 10 lb_X12_routeOn_2 rfl) (dl_at 64 11 lb_X12_routeOn_2 rfl) rfl
theorem dX12_routeOn_76 : decode cX12_routeOn 76 = .ok (.iload_n 1, 1) := dx_27 (dl_at 64 12 lb_X12_routeOn_2 rfl)
theorem dX12_routeOn_77 : decode cX12_routeOn 77 = .ok (.iload 7, 2) := dx_21 (dl_at 64 13 lb_X12_routeOn_2 rfl) (dl_at 64 14 lb_X12_routeOn_2 rfl)
theorem dX12_routeOn_79 : decode cX12_routeOn 79 = .ok (.iastore, 1) := dx_79 (dl_at 64 15 lb_X12_routeOn_2 rfl)
theorem dX12_routeOn_80 : decode cX12_routeOn 80 = .ok (.iload 7, 2) := dx_21 (dl_at 64 16 lb_X12_routeOn_2 rfl) (dl_at 64 17 lb_X12_routeOn_2 rfl)
theorem dX12_routeOn_82 : decode cX12_routeOn 82 = .ok (.aload_n 0, 1) := dx_42 (dl_at 64 18 lb_X12_routeOn_2 rfl)
theorem dX12_routeOn_83 : decode cX12_routeOn 83 = .ok (.getfield 245, 3) := dx_180 (a := 0) (b := 245) (dl_at 64 19 lb_X12_routeOn_2 rfl) (dl_at 64 20 lb_X12_routeOn_2 rfl) (dl_at 64 21 lb_X12_routeOn_2 rfl) rfl
theorem dX12_routeOn_86 : decode cX12_routeOn 86 = .ok (.if_icmp .ne 27, 3) := dx_160 (a := 0) (b := 27) (dl_at 64 22 lb_X12_routeOn_2 rfl) (dl_at 64 23 lb_X12_routeOn_2 rfl) (dl_at 64 24 lb_X12_routeOn_2 rfl) sg16_27
theorem dX12_routeOn_113 : decode cX12_routeOn 113 = .ok (.aload_n 0, 1) := dx_42 (dl_at 96 17 lb_X12_routeOn_3 rfl)
theorem dX12_routeOn_114 : decode cX12_routeOn 114 = .ok (.getfield 28, 3) := dx_180 (a := 0) (b := 28) (dl_at 96 18 lb_X12_routeOn_3 rfl) (dl_at 96 19 lb_X12_routeOn_3 rfl) (dl_at 96 20 lb_X12_routeOn_3 rfl) rfl
theorem dX12_routeOn_117 : decode cX12_routeOn 117 = .ok (.iload 7, 2) := dx_21 (dl_at 96 21 lb_X12_routeOn_3 rfl) (dl_at 96 22 lb_X12_routeOn_3 rfl)
theorem dX12_routeOn_119 : decode cX12_routeOn 119 = .ok (.iaload, 1) := dx_46 (dl_at 96 23 lb_X12_routeOn_3 rfl)
theorem dX12_routeOn_120 : decode cX12_routeOn 120 = .ok (.iconst 3, 1) := dx_6 (dl_at 96 24 lb_X12_routeOn_3 rfl)
theorem dX12_routeOn_121 : decode cX12_routeOn 121 = .ok (.if_icmp .eq 18, 3) := dx_159 (a := 0) (b := 18) (dl_at 96 25 lb_X12_routeOn_3 rfl) (dl_at 96 26 lb_X12_routeOn_3 rfl) (dl_at 96 27 lb_X12_routeOn_3 rfl) sg16_18
theorem dX12_routeOn_124 : decode cX12_routeOn 124 = .ok (.aload_n 0, 1) := dx_42 (dl_at 96 28 lb_X12_routeOn_3 rfl)
theorem dX12_routeOn_125 : decode cX12_routeOn 125 = .ok (.iload_n 1, 1) := dx_27 (dl_at 96 29 lb_X12_routeOn_3 rfl)
theorem dX12_routeOn_126 : decode cX12_routeOn 126 = .ok (.iconst 1, 1) := dx_4 (dl_at 96 30 lb_X12_routeOn_3 rfl)
theorem dX12_routeOn_127 : decode cX12_routeOn 127 = .ok (.iadd, 1) := dx_96 (dl_at 96 31 lb_X12_routeOn_3 rfl)
theorem dX12_routeOn_128 : decode cX12_routeOn 128 = .ok (.iload_n 2, 1) := dx_28 (dl_at 128 0 lb_X12_routeOn_4 rfl)
theorem dX12_routeOn_129 : decode cX12_routeOn 129 = .ok (.iconst 1, 1) := dx_4 (dl_at 128 1 lb_X12_routeOn_4 rfl)
theorem dX12_routeOn_130 : decode cX12_routeOn 130 = .ok (.iload 7, 2) := dx_21 (dl_at 128 2 lb_X12_routeOn_4 rfl) (dl_at 128 3 lb_X12_routeOn_4 rfl)
theorem dX12_routeOn_132 : decode cX12_routeOn 132 = .ok (.ishl, 1) := dx_120 (dl_at 128 4 lb_X12_routeOn_4 rfl)
theorem dX12_routeOn_133 : decode cX12_routeOn 133 = .ok (.ior, 1) := dx_128 (dl_at 128 5 lb_X12_routeOn_4 rfl)
theorem dX12_routeOn_134 : decode cX12_routeOn 134 = .ok (.iload 5, 2) := dx_21 (dl_at 128 6 lb_X12_routeOn_4 rfl) (dl_at 128 7 lb_X12_routeOn_4 rfl)
theorem dX12_routeOn_136 : decode cX12_routeOn 136 = .ok (.invokevirtual 251, 3) := dx_182 (a := 0) (b := 251) (dl_at 128 8 lb_X12_routeOn_4 rfl) (dl_at 128 9 lb_X12_routeOn_4 rfl) (dl_at 128 10 lb_X12_routeOn_4 rfl) rfl
theorem dX12_routeOn_89 : decode cX12_routeOn 89 = .ok (.aload_n 0, 1) := dx_42 (dl_at 64 25 lb_X12_routeOn_2 rfl)
theorem dX12_routeOn_90 : decode cX12_routeOn 90 = .ok (.iload_n 1, 1) := dx_27 (dl_at 64 26 lb_X12_routeOn_2 rfl)
theorem dX12_routeOn_91 : decode cX12_routeOn 91 = .ok (.iconst 1, 1) := dx_4 (dl_at 64 27 lb_X12_routeOn_2 rfl)
theorem dX12_routeOn_92 : decode cX12_routeOn 92 = .ok (.iadd, 1) := dx_96 (dl_at 64 28 lb_X12_routeOn_2 rfl)
theorem dX12_routeOn_93 : decode cX12_routeOn 93 = .ok (.iload_n 2, 1) := dx_28 (dl_at 64 29 lb_X12_routeOn_2 rfl)
theorem dX12_routeOn_94 : decode cX12_routeOn 94 = .ok (.iconst 1, 1) := dx_4 (dl_at 64 30 lb_X12_routeOn_2 rfl)
theorem dX12_routeOn_95 : decode cX12_routeOn 95 = .ok (.aload_n 0, 1) := dx_42 (dl_at 64 31 lb_X12_routeOn_2 rfl)
theorem dX12_routeOn_96 : decode cX12_routeOn 96 = .ok (.getfield 55, 3) := dx_180 (a := 0) (b := 55) (dl_at 96 0 lb_X12_routeOn_3 rfl) (dl_at 96 1 lb_X12_routeOn_3 rfl) (dl_at 96 2 lb_X12_routeOn_3 rfl) rfl
theorem dX12_routeOn_99 : decode cX12_routeOn 99 = .ok (.iconst 0, 1) := dx_3 (dl_at 96 3 lb_X12_routeOn_3 rfl)
theorem dX12_routeOn_100 : decode cX12_routeOn 100 = .ok (.iaload, 1) := dx_46 (dl_at 96 4 lb_X12_routeOn_3 rfl)
theorem dX12_routeOn_101 : decode cX12_routeOn 101 = .ok (.ishl, 1) := dx_120 (dl_at 96 5 lb_X12_routeOn_3 rfl)
theorem dX12_routeOn_102 : decode cX12_routeOn 102 = .ok (.iconst (-1), 1) := dx_2 (dl_at 96 6 lb_X12_routeOn_3 rfl)
theorem dX12_routeOn_103 : decode cX12_routeOn 103 = .ok (.ixor, 1) := dx_130 (dl_at 96 7 lb_X12_routeOn_3 rfl)
theorem dX12_routeOn_104 : decode cX12_routeOn 104 = .ok (.iand, 1) := dx_126 (dl_at 96 8 lb_X12_routeOn_3 rfl)
theorem dX12_routeOn_105 : decode cX12_routeOn 105 = .ok (.iload 5, 2) := dx_21 (dl_at 96 9 lb_X12_routeOn_3 rfl) (dl_at 96 10 lb_X12_routeOn_3 rfl)
theorem dX12_routeOn_107 : decode cX12_routeOn 107 = .ok (.invokevirtual 248, 3) := dx_182 (a := 0) (b := 248) (dl_at 96 11 lb_X12_routeOn_3 rfl) (dl_at 96 12 lb_X12_routeOn_3 rfl) (dl_at 96 13 lb_X12_routeOn_3 rfl) rfl
theorem dX12_routeOn_110 : decode cX12_routeOn 110 = .ok (.goto 29, 3) := dx_167 (a := 0) (b := 29) (dl_at 96 14 lb_X12_routeOn_3 rfl) (dl_at 96 15 lb_X12_routeOn_3 rfl) (dl_at 96 16 lb_X12_routeOn_3 rfl) sg16_29
theorem dX12_routeOn_60 : decode cX12_routeOn 60 = .ok (.aload_n 0, 1) := dx_42 (dl_at 32 28 lb_X12_routeOn_1 rfl)
theorem dX12_routeOn_61 : decode cX12_routeOn 61 = .ok (.getfield 31, 3) := dx_180 (a := 0) (b := 31) (dl_at 32 29 lb_X12_routeOn_1 rfl) (dl_at 32 30 lb_X12_routeOn_1 rfl) (dl_at 32 31 lb_X12_routeOn_1 rfl) rfl
theorem dX12_routeOn_64 : decode cX12_routeOn 64 = .ok (.iload 7, 2) := dx_21 (dl_at 64 0 lb_X12_routeOn_2 rfl) (dl_at 64 1 lb_X12_routeOn_2 rfl)
theorem dX12_routeOn_66 : decode cX12_routeOn 66 = .ok (.iaload, 1) := dx_46 (dl_at 64 2 lb_X12_routeOn_2 rfl)
theorem dX12_routeOn_67 : decode cX12_routeOn 67 = .ok (.iload 5, 2) := dx_21 (dl_at 64 3 lb_X12_routeOn_2 rfl) (dl_at 64 4 lb_X12_routeOn_2 rfl)
theorem dX12_routeOn_69 : decode cX12_routeOn 69 = .ok (.if_icmp .lt 70, 3) := dx_161 (a := 0) (b := 70) (dl_at 64 5 lb_X12_routeOn_2 rfl) (dl_at 64 6 lb_X12_routeOn_2 rfl) (dl_at 64 7 lb_X12_routeOn_2 rfl) sg16_70
