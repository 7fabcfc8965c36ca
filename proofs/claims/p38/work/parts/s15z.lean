set_option maxHeartbeats 4000000 in
set_option maxRecDepth 100000 in
/-- sj_fillI_places -/
theorem sj_fillI_places (l : Launch) (dC : Nat → ClassId) (dI : Nat → Nat → Nat) (cs : Nat → ClassId) (ad : Nat → Nat) (mu : Nat → Nat → Int32) (ok : okR loX hiX mu) (H : Heap) (hP : va_P (dC, dI) vwCl (wR 157 ad (EX cs ad) mu) H) (hD0 : va_D (fun _ => True) (wR 157 ad (EX cs ad) mu)) (ka : Nat) (h1ka : 21 ≤ ka) (h2ka : ka < 27) (vv : Int32) : Met l yJ7_fill_53178 (wU yJ7_fill_53178 cJ7_fill_53178 4 none) ({ frames := 0, cells := 0, slots := 0, locals := 0 }) (va_Pc [.ref (ad ka), .int vv] (sz_P (dC, dI) vwCl (tyW cs) H)) (va_Qv (fun (xi : Nat → Nat → Int32) => xi = F_sj_fillI_places mu ka vv ∧ okR loX hiX xi ∧ (True) ∧ (∀ k f : Nat, Nat.testBit 510 (gpX k f) = true → xi k f = mu k f)) (fun xi t => va_P (dC, dI) vwCl (wR 157 ad (EX cs ad) xi) t.heap) (va_A (wR 157 ad (EX cs ad) mu) H.size)) 0 0 (va_A (wR 157 ad (EX cs ad) mu) H.size) := by
  refine Met.ofW (cc := cJ7_fill_53178) (maxL := 4) (ret := none) (by decide) rfl ?_
  intro p e s m args below meth c s₁ B hml hv
  obtain ⟨rfl, hh, hK, hz⟩ := hv
  have hx := B.exec
  have hb := B.bytes
  have hr := B.returns
  have hts := atoms_spec (ws := (wU yJ7_fill_53178 cJ7_fill_53178 4 none)) B.pre
  have hown : s.vm.findClass RJ7 = some m.cls := findClass_of_methodNamed B.named
  have hlocks := B.notSynchronized
  subst hh
  have hD := hD0.self (sz := s.heap.size)
  have hA : ∀ q : Nat, s.heap.size ≤ q → (va_A (wR 157 ad (EX cs ad) mu) s.heap.size) q := fun q h => Or.inr h
  have hS : va_S (va_A (wR 157 ad (EX cs ad) mu) s.heap.size) s.heap s.heap [] := va_S.rf
  have hl := lv_entry ([.ref (ad ka), .int vv]) (n := 4) (Nat.le_of_ble_eq_true rfl)
  rw [lg_entry_eq]
  generalize (lg_sl ([.ref (ad ka), .int vv]) ++ List.replicate (4 - (lg_sl ([.ref (ad ka), .int vv])).length) Slot.unset).toArray = ls at hl ⊢
  have hl : lv_has ls 4 [(0, .ref (ad ka)), (1, .int vv)] := hl
  obtain ⟨fz, hfz⟩ : ∃ z, F_sj_fillI_places mu ka vv = z := ⟨_, rfl⟩
  have hF := hfz
  unfold F_sj_fillI_places at hF
  refine lv_iconst (v := 0) hx hb dJ7_fill_53178_0 (by decide) ?_
  refine lv_istore_n (lv' := [(2, .int 0), (0, .ref (ad ka)), (1, .int vv)]) hx hb dJ7_fill_53178_1 rfl hl (by decide) rfl (fun ls hl => ?_)
  refine lv_aload_n hx hb dJ7_fill_53178_2 rfl (lv_at hl 1 rfl) ?_
  refine va_alen (v := 40) hx hb hK hP ka 0 (gX_places cs ad mu ka h1ka h2ka) rfl rfl dJ7_fill_53178_3 ?_
  refine lv_istore_n (lv' := [(3, .int 40), (2, .int 0), (0, .ref (ad ka)), (1, .int vv)]) hx hb dJ7_fill_53178_4 rfl hl (by decide) rfl (fun ls hl => ?_)
  have loop5 : ∀ (n5 : Nat) (v2_5 : Int32) (nu5_ : Nat → Nat → Int32) (H : Heap) (locs : List Loc) (ls : Array Slot), (40 + 1 - v2_5.toInt).toNat < n5 → (0 ≤ v2_5.toInt ∧ v2_5.toInt ≤ 40) → okR loX hiX nu5_ → va_P (dC, dI) vwCl (wR 157 ad (EX cs ad) nu5_) H → (∀ k f : Nat, Nat.testBit 510 (gpX k f) = true → nu5_ k f = mu k f) → L_sj_fillI_places_5_0 ka vv n5 v2_5 nu5_ = fz → va_S (va_A (wR 157 ad (EX cs ad) mu) s.heap.size) s.heap H locs → lv_has ls 4 [(3, .int 40), (2, .int v2_5), (0, .ref (ad ka)), (1, .int vv)] → W p l e (headSpec (wU yJ7_fill_53178 cJ7_fill_53178 4 none) ({ frames := 0, cells := 0, slots := 0, locals := 0 })).room s m ([.ref (ad ka), .int vv] : List Value).toArray below meth c H locs 0 0 (MQ below (va_Qv (fun (xi : Nat → Nat → Int32) => xi = F_sj_fillI_places mu ka vv ∧ okR loX hiX xi ∧ (True) ∧ (∀ k f : Nat, Nat.testBit 510 (gpX k f) = true → xi k f = mu k f)) (fun xi t => va_P (dC, dI) vwCl (wR 157 ad (EX cs ad) xi) t.heap) (va_A (wR 157 ad (EX cs ad) mu) s.heap.size)) ([.ref (ad ka), .int vv] : List Value).toArray s 0 0 (va_A (wR 157 ad (EX cs ad) mu) s.heap.size)) (F0 m 5 ls []) := by
    intro n5
    induction n5 with
    | zero => intro v2_5 nu5_ H locs ls hm; exact absurd hm (Nat.not_lt_zero _)
    | succ n5 ih5 =>
      intro v2_5 nu5_ H locs ls hm_5 h_v2_5 ok hP kq5_0 hF hS hl
      rw [L_sj_fillI_places_5_0] at hF
      refine lv_iload_n hx hb dJ7_fill_53178_5 rfl (lv_at hl 1 rfl) ?_
      refine lv_iload_n hx hb dJ7_fill_53178_6 rfl (lv_at hl 0 rfl) ?_
      refine lv_icmp_ge (tgt := 20) hx hb dJ7_fill_53178_7 (by decide) (fun c_1 => ?_) (fun c_1 => ?_)
      · have hF := (if_pos c_1).symm.trans hF
        have c_1 : 40 ≤ v2_5.toInt := il_le c_1
        exact W.vret hx hb hr (fun t ht hW => ⟨⟨nu5_, rfl, ⟨hF.trans hfz.symm, ok, trivial, kq5_0⟩, by first | (subst ht; exact hP) | (rw [ht]; exact hP) | (show va_P (dC, dI) vwCl (wR 157 ad (EX cs ad) nu5_) t.heap; rw [ht]; exact hP)⟩, hS.F ht⟩) hS.2.2 dJ7_fill_53178_20
      · have hF := (if_neg c_1).symm.trans hF
        have c_1 : v2_5.toInt < 40 := il_nle c_1
        refine lv_aload_n hx hb dJ7_fill_53178_10 rfl (lv_at hl 2 rfl) ?_
        refine lv_iload_n hx hb dJ7_fill_53178_11 rfl (lv_at hl 1 rfl) ?_
        refine lv_iload_n hx hb dJ7_fill_53178_12 rfl (lv_at hl 3 rfl) ?_
        refine va_iast hx hb hK hP (wR_D nu5_ hD) hS ka 0 (gX_places cs ad nu5_ ka h1ka h2ka) rfl (show vp_in v2_5 40 from vi_of (by omega) (by omega)) dJ7_fill_53178_13 (fun H locs hP _ hS => ?_)
        refine wr_gen (upd (nu5_ ka) v2_5.toNatClampNeg vv) hP ((by rw [EX_places cs ad _ _ h1ka h2ka])) (fun nu2 hn2 hP => ?_)
        have hF := mi_let hF hn2.symm
        have ok := tX_places_s ok ka h1ka h2ka v2_5.toNatClampNeg hn2
        have kp3 : (∀ k f : Nat, Nat.testBit 510 (gpX k f) = true → nu2 k f = mu k f) := kp_c 0 hn2 (fun _ => gpX_places h1ka h2ka) (by decide) kq5_0
        refine lv_iinc (v := (v2_5 + 1)) (lv' := [(2, .int (v2_5 + 1)), (3, .int 40), (0, .ref (ad ka)), (1, .int vv)]) hx hb dJ7_fill_53178_14 hl (k := 1) rfl rfl (by decide) rfl (fun ls hl => ?_)
        refine loc_gen (P := fun w9 => lv_has ls 4 [(2, .int w9), (3, .int 40), (0, .ref (ad ka)), (1, .int vv)]) (v2_5 + 1) hl (fun w4 hw4 hl => ?_)
        have hl : lv_has ls 4 [(2, .int w4), (3, .int 40), (0, .ref (ad ka)), (1, .int vv)] := hl
        have hF := mi_let hF hw4.symm
        have aw4 : w4.toInt = v2_5.toInt + 1 := by rw [← hw4]; first | exact va1 (Int.lt_of_le_of_lt h_v2_5.2 (by decide)) | exact va1 (by omega)
        refine lv_goto (tgt := 5) hx hb dJ7_fill_53178_17 (by decide) ?_
        exact ih5 (w4) nu2 _ _ _ (by first | exact ms_up hm_5 aw4 h_v2_5.2 | exact ms_lt hm_5 (by omega) (by omega) | omega) (by first | exact rg_up aw4 h_v2_5 (by omega) | omega)  ok hP  kp3 hF hS (lv_sub hl [1, 0, 2, 3] rfl)
  exact loop5 43 (0) mu _ _ _ (by have h80 : (0 : Int32).toInt = 0 := rfl; omega) (by have h80 : (0 : Int32).toInt = 0 := rfl; exact ⟨by omega, by omega⟩)  ok hP  (fun _ _ _ => rfl) hF hS hl
set_option maxHeartbeats 4000000 in
set_option maxRecDepth 100000 in
/-- sj_fillI_37 -/
theorem sj_fillI_37 (l : Launch) (dC : Nat → ClassId) (dI : Nat → Nat → Nat) (cs : Nat → ClassId) (ad : Nat → Nat) (mu : Nat → Nat → Int32) (ok : okR loX hiX mu) (H : Heap) (hP : va_P (dC, dI) vwCl (wR 157 ad (EX cs ad) mu) H) (hD0 : va_D (fun _ => True) (wR 157 ad (EX cs ad) mu)) (vv : Int32) : Met l yJ7_fill_53178 (wU yJ7_fill_53178 cJ7_fill_53178 4 none) ({ frames := 0, cells := 0, slots := 0, locals := 0 }) (va_Pc [.ref (ad 37), .int vv] (sz_P (dC, dI) vwCl (tyW cs) H)) (va_Qv (fun (xi : Nat → Nat → Int32) => xi = F_sj_fillI_37 mu vv ∧ okR loX hiX xi ∧ (True) ∧ (∀ k f : Nat, Nat.testBit 510 (gpX k f) = true → xi k f = mu k f)) (fun xi t => va_P (dC, dI) vwCl (wR 157 ad (EX cs ad) xi) t.heap) (va_A (wR 157 ad (EX cs ad) mu) H.size)) 0 0 (va_A (wR 157 ad (EX cs ad) mu) H.size) := by
  refine Met.ofW (cc := cJ7_fill_53178) (maxL := 4) (ret := none) (by decide) rfl ?_
  intro p e s m args below meth c s₁ B hml hv
  obtain ⟨rfl, hh, hK, hz⟩ := hv
  have hx := B.exec
  have hb := B.bytes
  have hr := B.returns
  have hts := atoms_spec (ws := (wU yJ7_fill_53178 cJ7_fill_53178 4 none)) B.pre
  have hown : s.vm.findClass RJ7 = some m.cls := findClass_of_methodNamed B.named
  have hlocks := B.notSynchronized
  subst hh
  have hD := hD0.self (sz := s.heap.size)
  have hA : ∀ q : Nat, s.heap.size ≤ q → (va_A (wR 157 ad (EX cs ad) mu) s.heap.size) q := fun q h => Or.inr h
  have hS : va_S (va_A (wR 157 ad (EX cs ad) mu) s.heap.size) s.heap s.heap [] := va_S.rf
  have hl := lv_entry ([.ref (ad 37), .int vv]) (n := 4) (Nat.le_of_ble_eq_true rfl)
  rw [lg_entry_eq]
  generalize (lg_sl ([.ref (ad 37), .int vv]) ++ List.replicate (4 - (lg_sl ([.ref (ad 37), .int vv])).length) Slot.unset).toArray = ls at hl ⊢
  have hl : lv_has ls 4 [(0, .ref (ad 37)), (1, .int vv)] := hl
  obtain ⟨fz, hfz⟩ : ∃ z, F_sj_fillI_37 mu vv = z := ⟨_, rfl⟩
  have hF := hfz
  unfold F_sj_fillI_37 at hF
  refine lv_iconst (v := 0) hx hb dJ7_fill_53178_0 (by decide) ?_
  refine lv_istore_n (lv' := [(2, .int 0), (0, .ref (ad 37)), (1, .int vv)]) hx hb dJ7_fill_53178_1 rfl hl (by decide) rfl (fun ls hl => ?_)
  refine lv_aload_n hx hb dJ7_fill_53178_2 rfl (lv_at hl 1 rfl) ?_
  refine va_alen (v := 7) hx hb hK hP 37 0 (gX_37 cs ad mu) rfl rfl dJ7_fill_53178_3 ?_
  refine lv_istore_n (lv' := [(3, .int 7), (2, .int 0), (0, .ref (ad 37)), (1, .int vv)]) hx hb dJ7_fill_53178_4 rfl hl (by decide) rfl (fun ls hl => ?_)
  have loop5 : ∀ (n5 : Nat) (v2_5 : Int32) (nu5_ : Nat → Nat → Int32) (H : Heap) (locs : List Loc) (ls : Array Slot), (7 + 1 - v2_5.toInt).toNat < n5 → (0 ≤ v2_5.toInt ∧ v2_5.toInt ≤ 7) → okR loX hiX nu5_ → va_P (dC, dI) vwCl (wR 157 ad (EX cs ad) nu5_) H → (∀ k f : Nat, Nat.testBit 510 (gpX k f) = true → nu5_ k f = mu k f) → L_sj_fillI_37_5_0 vv n5 v2_5 nu5_ = fz → va_S (va_A (wR 157 ad (EX cs ad) mu) s.heap.size) s.heap H locs → lv_has ls 4 [(3, .int 7), (2, .int v2_5), (0, .ref (ad 37)), (1, .int vv)] → W p l e (headSpec (wU yJ7_fill_53178 cJ7_fill_53178 4 none) ({ frames := 0, cells := 0, slots := 0, locals := 0 })).room s m ([.ref (ad 37), .int vv] : List Value).toArray below meth c H locs 0 0 (MQ below (va_Qv (fun (xi : Nat → Nat → Int32) => xi = F_sj_fillI_37 mu vv ∧ okR loX hiX xi ∧ (True) ∧ (∀ k f : Nat, Nat.testBit 510 (gpX k f) = true → xi k f = mu k f)) (fun xi t => va_P (dC, dI) vwCl (wR 157 ad (EX cs ad) xi) t.heap) (va_A (wR 157 ad (EX cs ad) mu) s.heap.size)) ([.ref (ad 37), .int vv] : List Value).toArray s 0 0 (va_A (wR 157 ad (EX cs ad) mu) s.heap.size)) (F0 m 5 ls []) := by
    intro n5
    induction n5 with
    | zero => intro v2_5 nu5_ H locs ls hm; exact absurd hm (Nat.not_lt_zero _)
    | succ n5 ih5 =>
      intro v2_5 nu5_ H locs ls hm_5 h_v2_5 ok hP kq5_0 hF hS hl
      rw [L_sj_fillI_37_5_0] at hF
      refine lv_iload_n hx hb dJ7_fill_53178_5 rfl (lv_at hl 1 rfl) ?_
      refine lv_iload_n hx hb dJ7_fill_53178_6 rfl (lv_at hl 0 rfl) ?_
      refine lv_icmp_ge (tgt := 20) hx hb dJ7_fill_53178_7 (by decide) (fun c_1 => ?_) (fun c_1 => ?_)
      · have hF := (if_pos c_1).symm.trans hF
        have c_1 : 7 ≤ v2_5.toInt := il_le c_1
        exact W.vret hx hb hr (fun t ht hW => ⟨⟨nu5_, rfl, ⟨hF.trans hfz.symm, ok, trivial, kq5_0⟩, by first | (subst ht; exact hP) | (rw [ht]; exact hP) | (show va_P (dC, dI) vwCl (wR 157 ad (EX cs ad) nu5_) t.heap; rw [ht]; exact hP)⟩, hS.F ht⟩) hS.2.2 dJ7_fill_53178_20
      · have hF := (if_neg c_1).symm.trans hF
        have c_1 : v2_5.toInt < 7 := il_nle c_1
        refine lv_aload_n hx hb dJ7_fill_53178_10 rfl (lv_at hl 2 rfl) ?_
        refine lv_iload_n hx hb dJ7_fill_53178_11 rfl (lv_at hl 1 rfl) ?_
        refine lv_iload_n hx hb dJ7_fill_53178_12 rfl (lv_at hl 3 rfl) ?_
        refine va_iast hx hb hK hP (wR_D nu5_ hD) hS 37 0 (gX_37 cs ad nu5_) rfl (show vp_in v2_5 7 from vi_of (by omega) (by omega)) dJ7_fill_53178_13 (fun H locs hP _ hS => ?_)
        refine wr_gen (upd (nu5_ 37) v2_5.toNatClampNeg vv) hP (rfl) (fun nu2 hn2 hP => ?_)
        have hF := mi_let hF hn2.symm
        have ok := tX_37_s ok v2_5.toNatClampNeg hn2
        have kp3 : (∀ k f : Nat, Nat.testBit 510 (gpX k f) = true → nu2 k f = mu k f) := kp_c 0 hn2 (fun _ => rfl) (by decide) kq5_0
        refine lv_iinc (v := (v2_5 + 1)) (lv' := [(2, .int (v2_5 + 1)), (3, .int 7), (0, .ref (ad 37)), (1, .int vv)]) hx hb dJ7_fill_53178_14 hl (k := 1) rfl rfl (by decide) rfl (fun ls hl => ?_)
        refine loc_gen (P := fun w9 => lv_has ls 4 [(2, .int w9), (3, .int 7), (0, .ref (ad 37)), (1, .int vv)]) (v2_5 + 1) hl (fun w4 hw4 hl => ?_)
        have hl : lv_has ls 4 [(2, .int w4), (3, .int 7), (0, .ref (ad 37)), (1, .int vv)] := hl
        have hF := mi_let hF hw4.symm
        have aw4 : w4.toInt = v2_5.toInt + 1 := by rw [← hw4]; first | exact va1 (Int.lt_of_le_of_lt h_v2_5.2 (by decide)) | exact va1 (by omega)
        refine lv_goto (tgt := 5) hx hb dJ7_fill_53178_17 (by decide) ?_
        exact ih5 (w4) nu2 _ _ _ (by first | exact ms_up hm_5 aw4 h_v2_5.2 | exact ms_lt hm_5 (by omega) (by omega) | omega) (by first | exact rg_up aw4 h_v2_5 (by omega) | omega)  ok hP  kp3 hF hS (lv_sub hl [1, 0, 2, 3] rfl)
  exact loop5 10 (0) mu _ _ _ (by have h80 : (0 : Int32).toInt = 0 := rfl; omega) (by have h80 : (0 : Int32).toInt = 0 := rfl; exact ⟨by omega, by omega⟩)  ok hP  (fun _ _ _ => rfl) hF hS hl
set_option maxHeartbeats 4000000 in
set_option maxRecDepth 100000 in
/-- sj_fillB -/
theorem sj_fillB (l : Launch) (dC : Nat → ClassId) (dI : Nat → Nat → Nat) (cs : Nat → ClassId) (ad : Nat → Nat) (mu : Nat → Nat → Int32) (ok : okR loX hiX mu) (H : Heap) (hP : va_P (dC, dI) vwCl (wR 157 ad (EX cs ad) mu) H) (hD0 : va_D (fun _ => True) (wR 157 ad (EX cs ad) mu)) (ka : Nat) (h1ka : 27 ≤ ka) (h2ka : ka < 31) (vv : Int32) : Met l yJ7_fill_031fb (wU yJ7_fill_031fb cJ7_fill_031fb 4 none) ({ frames := 0, cells := 0, slots := 0, locals := 0 }) (va_Pc [.ref (ad ka), .int vv] (sz_P (dC, dI) vwCl (tyW cs) H)) (va_Qv (fun (xi : Nat → Nat → Int32) => xi = F_sj_fillB mu ka vv ∧ okR loX hiX xi ∧ (True) ∧ (∀ k f : Nat, Nat.testBit 508 (gpX k f) = true → xi k f = mu k f)) (fun xi t => va_P (dC, dI) vwCl (wR 157 ad (EX cs ad) xi) t.heap) (va_A (wR 157 ad (EX cs ad) mu) H.size)) 0 0 (va_A (wR 157 ad (EX cs ad) mu) H.size) := by
  refine Met.ofW (cc := cJ7_fill_031fb) (maxL := 4) (ret := none) (by decide) rfl ?_
  intro p e s m args below meth c s₁ B hml hv
  obtain ⟨rfl, hh, hK, hz⟩ := hv
  have hx := B.exec
  have hb := B.bytes
  have hr := B.returns
  have hts := atoms_spec (ws := (wU yJ7_fill_031fb cJ7_fill_031fb 4 none)) B.pre
  have hown : s.vm.findClass RJ7 = some m.cls := findClass_of_methodNamed B.named
  have hlocks := B.notSynchronized
  subst hh
  have hD := hD0.self (sz := s.heap.size)
  have hA : ∀ q : Nat, s.heap.size ≤ q → (va_A (wR 157 ad (EX cs ad) mu) s.heap.size) q := fun q h => Or.inr h
  have hS : va_S (va_A (wR 157 ad (EX cs ad) mu) s.heap.size) s.heap s.heap [] := va_S.rf
  have hl := lv_entry ([.ref (ad ka), .int vv]) (n := 4) (Nat.le_of_ble_eq_true rfl)
  rw [lg_entry_eq]
  generalize (lg_sl ([.ref (ad ka), .int vv]) ++ List.replicate (4 - (lg_sl ([.ref (ad ka), .int vv])).length) Slot.unset).toArray = ls at hl ⊢
  have hl : lv_has ls 4 [(0, .ref (ad ka)), (1, .int vv)] := hl
  obtain ⟨fz, hfz⟩ : ∃ z, F_sj_fillB mu ka vv = z := ⟨_, rfl⟩
  have hF := hfz
  unfold F_sj_fillB at hF
  refine lv_iconst (v := 0) hx hb dJ7_fill_031fb_0 (by decide) ?_
  refine lv_istore_n (lv' := [(2, .int 0), (0, .ref (ad ka)), (1, .int vv)]) hx hb dJ7_fill_031fb_1 rfl hl (by decide) rfl (fun ls hl => ?_)
  refine lv_aload_n hx hb dJ7_fill_031fb_2 rfl (lv_at hl 1 rfl) ?_
  refine va_alen (v := 80) hx hb hK hP ka 1 (gX_bytes cs ad mu ka h1ka h2ka) rfl rfl dJ7_fill_031fb_3 ?_
  refine lv_istore_n (lv' := [(3, .int 80), (2, .int 0), (0, .ref (ad ka)), (1, .int vv)]) hx hb dJ7_fill_031fb_4 rfl hl (by decide) rfl (fun ls hl => ?_)
  have loop5 : ∀ (n5 : Nat) (v2_5 : Int32) (nu5_ : Nat → Nat → Int32) (H : Heap) (locs : List Loc) (ls : Array Slot), (80 + 1 - v2_5.toInt).toNat < n5 → (0 ≤ v2_5.toInt ∧ v2_5.toInt ≤ 80) → okR loX hiX nu5_ → va_P (dC, dI) vwCl (wR 157 ad (EX cs ad) nu5_) H → (∀ k f : Nat, Nat.testBit 508 (gpX k f) = true → nu5_ k f = mu k f) → L_sj_fillB_5_0 ka vv n5 v2_5 nu5_ = fz → va_S (va_A (wR 157 ad (EX cs ad) mu) s.heap.size) s.heap H locs → lv_has ls 4 [(3, .int 80), (2, .int v2_5), (0, .ref (ad ka)), (1, .int vv)] → W p l e (headSpec (wU yJ7_fill_031fb cJ7_fill_031fb 4 none) ({ frames := 0, cells := 0, slots := 0, locals := 0 })).room s m ([.ref (ad ka), .int vv] : List Value).toArray below meth c H locs 0 0 (MQ below (va_Qv (fun (xi : Nat → Nat → Int32) => xi = F_sj_fillB mu ka vv ∧ okR loX hiX xi ∧ (True) ∧ (∀ k f : Nat, Nat.testBit 508 (gpX k f) = true → xi k f = mu k f)) (fun xi t => va_P (dC, dI) vwCl (wR 157 ad (EX cs ad) xi) t.heap) (va_A (wR 157 ad (EX cs ad) mu) s.heap.size)) ([.ref (ad ka), .int vv] : List Value).toArray s 0 0 (va_A (wR 157 ad (EX cs ad) mu) s.heap.size)) (F0 m 5 ls []) := by
    intro n5
    induction n5 with
    | zero => intro v2_5 nu5_ H locs ls hm; exact absurd hm (Nat.not_lt_zero _)
    | succ n5 ih5 =>
      intro v2_5 nu5_ H locs ls hm_5 h_v2_5 ok hP kq5_0 hF hS hl
      rw [L_sj_fillB_5_0] at hF
      refine lv_iload_n hx hb dJ7_fill_031fb_5 rfl (lv_at hl 1 rfl) ?_
      refine lv_iload_n hx hb dJ7_fill_031fb_6 rfl (lv_at hl 0 rfl) ?_
      refine lv_icmp_ge (tgt := 20) hx hb dJ7_fill_031fb_7 (by decide) (fun c_1 => ?_) (fun c_1 => ?_)
      · have hF := (if_pos c_1).symm.trans hF
        have c_1 : 80 ≤ v2_5.toInt := il_le c_1
        exact W.vret hx hb hr (fun t ht hW => ⟨⟨nu5_, rfl, ⟨hF.trans hfz.symm, ok, trivial, kq5_0⟩, by first | (subst ht; exact hP) | (rw [ht]; exact hP) | (show va_P (dC, dI) vwCl (wR 157 ad (EX cs ad) nu5_) t.heap; rw [ht]; exact hP)⟩, hS.F ht⟩) hS.2.2 dJ7_fill_031fb_20
      · have hF := (if_neg c_1).symm.trans hF
        have c_1 : v2_5.toInt < 80 := il_nle c_1
        refine lv_aload_n hx hb dJ7_fill_031fb_10 rfl (lv_at hl 2 rfl) ?_
        refine lv_iload_n hx hb dJ7_fill_031fb_11 rfl (lv_at hl 1 rfl) ?_
        refine lv_iload_n hx hb dJ7_fill_031fb_12 rfl (lv_at hl 3 rfl) ?_
        refine va_bast hx hb hK hP (wR_D nu5_ hD) hS ka 1 (gX_bytes cs ad nu5_ ka h1ka h2ka) rfl (show vp_in v2_5 80 from vi_of (by omega) (by omega)) dJ7_fill_031fb_13 (fun H locs hP _ hS => ?_)
        have gb2 : -128 ≤ (vp_nar .byte vv).toInt ∧ (vp_nar .byte vv).toInt ≤ 127 := tb_rng _
        refine wr_gen (upd (nu5_ ka) v2_5.toNatClampNeg (vp_nar .byte vv)) hP ((by rw [EX_bytes cs ad _ _ h1ka h2ka])) (fun nu3 hn3 hP => ?_)
        have hF := mi_let hF hn3.symm
        have ok := tX_bytes_s ok ka h1ka h2ka v2_5.toNatClampNeg hn3 (by omega)
        have kp4 : (∀ k f : Nat, Nat.testBit 508 (gpX k f) = true → nu3 k f = mu k f) := kp_c 1 hn3 (fun _ => gpX_bytes h1ka h2ka) (by decide) kq5_0
        refine lv_iinc (v := (v2_5 + 1)) (lv' := [(2, .int (v2_5 + 1)), (3, .int 80), (0, .ref (ad ka)), (1, .int vv)]) hx hb dJ7_fill_031fb_14 hl (k := 1) rfl rfl (by decide) rfl (fun ls hl => ?_)
        refine loc_gen (P := fun w9 => lv_has ls 4 [(2, .int w9), (3, .int 80), (0, .ref (ad ka)), (1, .int vv)]) (v2_5 + 1) hl (fun w5 hw5 hl => ?_)
        have hl : lv_has ls 4 [(2, .int w5), (3, .int 80), (0, .ref (ad ka)), (1, .int vv)] := hl
        have hF := mi_let hF hw5.symm
        have aw5 : w5.toInt = v2_5.toInt + 1 := by rw [← hw5]; first | exact va1 (Int.lt_of_le_of_lt h_v2_5.2 (by decide)) | exact va1 (by omega)
        refine lv_goto (tgt := 5) hx hb dJ7_fill_031fb_17 (by decide) ?_
        exact ih5 (w5) nu3 _ _ _ (by first | exact ms_up hm_5 aw5 h_v2_5.2 | exact ms_lt hm_5 (by omega) (by omega) | omega) (by first | exact rg_up aw5 h_v2_5 (by omega) | omega)  ok hP  kp4 hF hS (lv_sub hl [1, 0, 2, 3] rfl)
  exact loop5 83 (0) mu _ _ _ (by have h80 : (0 : Int32).toInt = 0 := rfl; omega) (by have h80 : (0 : Int32).toInt = 0 := rfl; exact ⟨by omega, by omega⟩)  ok hP  (fun _ _ _ => rfl) hF hS hl
set_option maxHeartbeats 4000000 in
set_option maxRecDepth 100000 in
/-- sx_beZeros -/
theorem sx_beZeros (l : Launch) (dC : Nat → ClassId) (dI : Nat → Nat → Nat) (cs : Nat → ClassId) (ad : Nat → Nat) (mu : Nat → Nat → Int32) (ok : okR loX hiX mu) (H : Heap) (hP : va_P (dC, dI) vwCl (wR 157 ad (EX cs ad) mu) H) (hD0 : va_D (fun _ => True) (wR 157 ad (EX cs ad) mu)) (kk : Nat) (h1kk : 8 ≤ kk) (h2kk : kk < 14) (vn : Int32) (hin0 : 0 ≤ vn.toInt ∧ vn.toInt ≤ 40) : Met l yX6_beZeros (wU yX6_beZeros cX6_beZeros 2 none) ({ frames := 1, cells := 0, slots := 0, locals := 23 }) (va_Pc [.ref (ad kk), .int vn] (sz_P (dC, dI) vwCl (tyW cs) H)) (va_Qv (fun (xi : Nat → Nat → Int32) => xi = F_sx_beZeros mu kk vn ∧ okR loX hiX xi ∧ (True) ∧ (∀ k f : Nat, Nat.testBit 510 (gpX k f) = true → xi k f = mu k f)) (fun xi t => va_P (dC, dI) vwCl (wR 157 ad (EX cs ad) xi) t.heap) (va_A (wR 157 ad (EX cs ad) mu) H.size)) 0 0 (va_A (wR 157 ad (EX cs ad) mu) H.size) := by
  refine Met.ofW (cc := cX6_beZeros) (maxL := 2) (ret := none) (by decide) rfl ?_
  intro p e s m args below meth c s₁ B hml hv
  obtain ⟨rfl, hh, hK, hz⟩ := hv
  have hx := B.exec
  have hb := B.bytes
  have hr := B.returns
  have hts := atoms_spec (ws := (wU yX6_beZeros cX6_beZeros 2 none)) B.pre
  have hown : s.vm.findClass RX6 = some m.cls := findClass_of_methodNamed B.named
  have hlocks := B.notSynchronized
  subst hh
  have hD := hD0.self (sz := s.heap.size)
  have hA : ∀ q : Nat, s.heap.size ≤ q → (va_A (wR 157 ad (EX cs ad) mu) s.heap.size) q := fun q h => Or.inr h
  have hS : va_S (va_A (wR 157 ad (EX cs ad) mu) s.heap.size) s.heap s.heap [] := va_S.rf
  have hl := lv_entry ([.ref (ad kk), .int vn]) (n := 2) (Nat.le_of_ble_eq_true rfl)
  rw [lg_entry_eq]
  generalize (lg_sl ([.ref (ad kk), .int vn]) ++ List.replicate (2 - (lg_sl ([.ref (ad kk), .int vn])).length) Slot.unset).toArray = ls at hl ⊢
  have hl : lv_has ls 2 [(0, .ref (ad kk)), (1, .int vn)] := hl
  obtain ⟨fz, hfz⟩ : ∃ z, F_sx_beZeros mu kk vn = z := ⟨_, rfl⟩
  have hF := hfz
  unfold F_sx_beZeros at hF
  refine lv_aload_n hx hb dX6_beZeros_0 rfl (lv_at hl 0 rfl) ?_
  have hk1 : 21 ≤ kk + 13 ∧ kk + 13 < 27 := add_in 13 h1kk h2kk
  refine va_get (D := (dC, dI)) (ci := 6) (v := .ref (ad (kk + 13))) (C := RX6) (T := TX6) (N := 2) hx hb hts inG6 hown hK hP kk (gX_row cs ad mu kk h1kk h2kk) rfl 0 (by decide) (hts _ (List.mem_cons_of_mem _ mw_2_129)) (fun _ h9 => h9) rfl dX6_beZeros_1 ?_
  refine lv_iconst (v := 0) hx hb dX6_beZeros_4 (by decide) ?_
  have hFc := fr_all (wR_D mu hD) hS hA
  refine va_callv (va_runS (As := [.ref (ad (kk + 13)), .int 0]) (rest := []) ⟨hx, hb, hml, hown, hts⟩ (sj_fillI_places l dC dI cs ad mu ok s.heap hP ((wR_D mu hD).weaken (fun _ _ _ _ => trivial)) (kk + 13) hk1.1 hk1.2 0) (va_cwS 2 hts (wU_S mw_2_209 mw_2_207 mw_2_208 mw_1_14) rfl rfl rfl (by decide +kernel) ⟨Nat.le_of_ble_eq_true rfl, Nat.le_of_ble_eq_true rfl⟩) ⟨sz_c, sz_m hK hz⟩ rfl rfl hl.1 rfl (lv_room (Nat.le_of_ble_eq_true rfl)) dX6_beZeros_5 ⟨Nat.zero_le _, Nat.zero_le _⟩) hS (fun q _ h => hFc q h) hFc (fun xi2 t H2 locs ht hvm hw2 hB hz1 hk1 hS => ?_)
  have hP : va_P (dC, dI) vwCl (wR 157 ad (EX cs ad) xi2) H2 := by rw [← ht]; exact hB
  obtain ⟨hfe2, ok, hw2, hkp2_0⟩ := hw2
  have hF := mi_let hF hfe2
  have kp3 : (∀ k f : Nat, Nat.testBit 510 (gpX k f) = true → xi2 k f = mu k f) := kp_t hkp2_0 (by decide) (fun _ _ _ => rfl)
  refine lv_aload_n hx hb dX6_beZeros_8 rfl (lv_at hl 0 rfl) ?_
  refine lv_iload_n hx hb dX6_beZeros_9 rfl (lv_at hl 1 rfl) ?_
  refine va_put (D := (dC, dI)) (ci := 6) (v := .int vn) (ty := .int) (C := RX6) (T := TX6) (N := 2) hx hb hts inG6 tyX6 tyX6_ok nmX6 hown hK hP (wR_D xi2 hD) hS kk (gX_row cs ad xi2 kk h1kk h2kk) rfl 1 (by decide) (hts _ (List.mem_cons_of_mem _ mw_2_132)) (fun _ h9 => h9) rfl (by decide +kernel) rfl rfl (Nat.le_of_ble_eq_true rfl) dX6_beZeros_10 (fun H locs hP _ hS => ?_)
  simp only [List.set_cons_succ, List.set_cons_zero] at hP
  refine wr_gen (upd (xi2 kk) 1 vn) hP ((hX_row_1 cs ad _ _ kk h1kk h2kk)) (fun nu4 hn4 hP => ?_)
  have hF := mi_let hF hn4.symm
  have ok := tX_row_1 ok kk h1kk h2kk hn4 (by omega)
  have kp5 : (∀ k f : Nat, Nat.testBit 510 (gpX k f) = true → nu4 k f = mu k f) := kp_c 0 hn4 (fun _ => gpX_row h1kk h2kk) (by decide) kp3
  have ez6 : vn = nu4 kk 1 := up_v hn4
  exact W.vret hx hb hr (fun t ht hW => ⟨⟨nu4, rfl, ⟨hF.trans hfz.symm, ok, trivial, kp5⟩, by first | (subst ht; exact hP) | (rw [ht]; exact hP) | (show va_P (dC, dI) vwCl (wR 157 ad (EX cs ad) nu4) t.heap; rw [ht]; exact hP)⟩, hS.F ht⟩) hS.2.2 dX6_beZeros_13
set_option maxHeartbeats 4000000 in
set_option maxRecDepth 100000 in
/-- sx_beBlanks -/
theorem sx_beBlanks (l : Launch) (dC : Nat → ClassId) (dI : Nat → Nat → Nat) (cs : Nat → ClassId) (ad : Nat → Nat) (mu : Nat → Nat → Int32) (ok : okR loX hiX mu) (H : Heap) (hP : va_P (dC, dI) vwCl (wR 157 ad (EX cs ad) mu) H) (hD0 : va_D (fun _ => True) (wR 157 ad (EX cs ad) mu)) (kk : Nat) (h1kk : 14 ≤ kk) (h2kk : kk < 18) (vn : Int32) (hin0 : 0 ≤ vn.toInt ∧ vn.toInt ≤ 80) : Met l yX9_beBlanks (wU yX9_beBlanks cX9_beBlanks 2 none) ({ frames := 1, cells := 0, slots := 0, locals := 23 }) (va_Pc [.ref (ad kk), .int vn] (sz_P (dC, dI) vwCl (tyW cs) H)) (va_Qv (fun (xi : Nat → Nat → Int32) => xi = F_sx_beBlanks mu kk vn ∧ okR loX hiX xi ∧ (True) ∧ (∀ k f : Nat, Nat.testBit 508 (gpX k f) = true → xi k f = mu k f)) (fun xi t => va_P (dC, dI) vwCl (wR 157 ad (EX cs ad) xi) t.heap) (va_A (wR 157 ad (EX cs ad) mu) H.size)) 0 0 (va_A (wR 157 ad (EX cs ad) mu) H.size) := by
  refine Met.ofW (cc := cX9_beBlanks) (maxL := 2) (ret := none) (by decide) rfl ?_
  intro p e s m args below meth c s₁ B hml hv
  obtain ⟨rfl, hh, hK, hz⟩ := hv
  have hx := B.exec
  have hb := B.bytes
  have hr := B.returns
  have hts := atoms_spec (ws := (wU yX9_beBlanks cX9_beBlanks 2 none)) B.pre
  have hown : s.vm.findClass RX9 = some m.cls := findClass_of_methodNamed B.named
  have hlocks := B.notSynchronized
  subst hh
  have hD := hD0.self (sz := s.heap.size)
  have hA : ∀ q : Nat, s.heap.size ≤ q → (va_A (wR 157 ad (EX cs ad) mu) s.heap.size) q := fun q h => Or.inr h
  have hS : va_S (va_A (wR 157 ad (EX cs ad) mu) s.heap.size) s.heap s.heap [] := va_S.rf
  have hl := lv_entry ([.ref (ad kk), .int vn]) (n := 2) (Nat.le_of_ble_eq_true rfl)
  rw [lg_entry_eq]
  generalize (lg_sl ([.ref (ad kk), .int vn]) ++ List.replicate (2 - (lg_sl ([.ref (ad kk), .int vn])).length) Slot.unset).toArray = ls at hl ⊢
  have hl : lv_has ls 2 [(0, .ref (ad kk)), (1, .int vn)] := hl
  obtain ⟨fz, hfz⟩ : ∃ z, F_sx_beBlanks mu kk vn = z := ⟨_, rfl⟩
  have hF := hfz
  unfold F_sx_beBlanks at hF
  refine lv_aload_n hx hb dX9_beBlanks_0 rfl (lv_at hl 0 rfl) ?_
  have hk1 : 27 ≤ kk + 13 ∧ kk + 13 < 31 := add_in 13 h1kk h2kk
  refine va_get (D := (dC, dI)) (ci := 9) (v := .ref (ad (kk + 13))) (C := RX9) (T := TX9) (N := 2) hx hb hts inG9 hown hK hP kk (gX_text cs ad mu kk h1kk h2kk) rfl 0 (by decide) (hts _ (List.mem_cons_of_mem _ mw_2_145)) (fun _ h9 => h9) rfl dX9_beBlanks_1 ?_
  refine lv_bipush (v := 32) hx hb dX9_beBlanks_4 (by decide) ?_
  have hFc := fr_all (wR_D mu hD) hS hA
  refine va_callv (va_runS (As := [.ref (ad (kk + 13)), .int 32]) (rest := []) ⟨hx, hb, hml, hown, hts⟩ (sj_fillB l dC dI cs ad mu ok s.heap hP ((wR_D mu hD).weaken (fun _ _ _ _ => trivial)) (kk + 13) hk1.1 hk1.2 32) (va_cwS 2 hts (wU_S mw_3_22 mw_3_20 mw_3_21 mw_1_14) rfl rfl rfl (by decide +kernel) ⟨Nat.le_of_ble_eq_true rfl, Nat.le_of_ble_eq_true rfl⟩) ⟨sz_c, sz_m hK hz⟩ rfl rfl hl.1 rfl (lv_room (Nat.le_of_ble_eq_true rfl)) dX9_beBlanks_6 ⟨Nat.zero_le _, Nat.zero_le _⟩) hS (fun q _ h => hFc q h) hFc (fun xi2 t H2 locs ht hvm hw2 hB hz1 hk1 hS => ?_)
  have hP : va_P (dC, dI) vwCl (wR 157 ad (EX cs ad) xi2) H2 := by rw [← ht]; exact hB
  obtain ⟨hfe2, ok, hw2, hkp2_0⟩ := hw2
  have hF := mi_let hF hfe2
  have kp3 : (∀ k f : Nat, Nat.testBit 508 (gpX k f) = true → xi2 k f = mu k f) := kp_t hkp2_0 (by decide) (fun _ _ _ => rfl)
  refine lv_aload_n hx hb dX9_beBlanks_9 rfl (lv_at hl 0 rfl) ?_
  refine lv_iload_n hx hb dX9_beBlanks_10 rfl (lv_at hl 1 rfl) ?_
  refine va_put (D := (dC, dI)) (ci := 9) (v := .int vn) (ty := .int) (C := RX9) (T := TX9) (N := 2) hx hb hts inG9 tyX9 tyX9_ok nmX9 hown hK hP (wR_D xi2 hD) hS kk (gX_text cs ad xi2 kk h1kk h2kk) rfl 1 (by decide) (hts _ (List.mem_cons_of_mem _ mw_2_148)) (fun _ h9 => h9) rfl (by decide +kernel) rfl rfl (Nat.le_of_ble_eq_true rfl) dX9_beBlanks_11 (fun H locs hP _ hS => ?_)
  simp only [List.set_cons_succ, List.set_cons_zero] at hP
  refine wr_gen (upd (xi2 kk) 1 vn) hP ((hX_text_1 cs ad _ _ kk h1kk h2kk)) (fun nu4 hn4 hP => ?_)
  have hF := mi_let hF hn4.symm
  have ok := tX_text_1 ok kk h1kk h2kk hn4 (by omega)
  have kp5 : (∀ k f : Nat, Nat.testBit 508 (gpX k f) = true → nu4 k f = mu k f) := kp_c 1 hn4 (fun _ => gpX_text h1kk h2kk) (by decide) kp3
  have ez6 : vn = nu4 kk 1 := up_v hn4
  exact W.vret hx hb hr (fun t ht hW => ⟨⟨nu4, rfl, ⟨hF.trans hfz.symm, ok, trivial, kp5⟩, by first | (subst ht; exact hP) | (rw [ht]; exact hP) | (show va_P (dC, dI) vwCl (wR 157 ad (EX cs ad) nu4) t.heap; rw [ht]; exact hP)⟩, hS.F ht⟩) hS.2.2 dX9_beBlanks_14
set_option maxHeartbeats 4000000 in
set_option maxRecDepth 100000 in
/-- sx_Row_beLike57 -/
theorem sx_Row_beLike57 (l : Launch) (dC : Nat → ClassId) (dI : Nat → Nat → Nat) (cs : Nat → ClassId) (ad : Nat → Nat) (mu : Nat → Nat → Int32) (ok : okR loX hiX mu) (H : Heap) (hP : va_P (dC, dI) vwCl (wR 157 ad (EX cs ad) mu) H) (hD0 : va_D (fun _ => True) (wR 157 ad (EX cs ad) mu)) (kk : Nat) (h1kk : 8 ≤ kk) (h2kk : kk < 14) (vn : Int32) (hin0 : 0 ≤ vn.toInt ∧ vn.toInt ≤ 7) : Met l yX6_beLike (wU yX6_beLike cX6_beLike 3 none) ({ frames := 1, cells := 0, slots := 0, locals := 60 }) (va_Pc [.ref (ad kk), .ref (ad 57), .int vn] (sz_P (dC, dI) vwCl (tyW cs) H)) (va_Qv (fun (xi : Nat → Nat → Int32) => xi = F_sx_Row_beLike57 mu kk vn ∧ okR loX hiX xi ∧ (True) ∧ (∀ k f : Nat, Nat.testBit 510 (gpX k f) = true → xi k f = mu k f)) (fun xi t => va_P (dC, dI) vwCl (wR 157 ad (EX cs ad) xi) t.heap) (va_A (wR 157 ad (EX cs ad) mu) H.size)) 0 0 (va_A (wR 157 ad (EX cs ad) mu) H.size) := by
  refine Met.ofW (cc := cX6_beLike) (maxL := 3) (ret := none) (by decide) rfl ?_
  intro p e s m args below meth c s₁ B hml hv
  obtain ⟨rfl, hh, hK, hz⟩ := hv
  have hx := B.exec
  have hb := B.bytes
  have hr := B.returns
  have hts := atoms_spec (ws := (wU yX6_beLike cX6_beLike 3 none)) B.pre
  have hown : s.vm.findClass RX6 = some m.cls := findClass_of_methodNamed B.named
  have hlocks := B.notSynchronized
  subst hh
  have hD := hD0.self (sz := s.heap.size)
  have hA : ∀ q : Nat, s.heap.size ≤ q → (va_A (wR 157 ad (EX cs ad) mu) s.heap.size) q := fun q h => Or.inr h
  have hS : va_S (va_A (wR 157 ad (EX cs ad) mu) s.heap.size) s.heap s.heap [] := va_S.rf
  have hl := lv_entry ([.ref (ad kk), .ref (ad 57), .int vn]) (n := 3) (Nat.le_of_ble_eq_true rfl)
  rw [lg_entry_eq]
  generalize (lg_sl ([.ref (ad kk), .ref (ad 57), .int vn]) ++ List.replicate (3 - (lg_sl ([.ref (ad kk), .ref (ad 57), .int vn])).length) Slot.unset).toArray = ls at hl ⊢
  have hl : lv_has ls 3 [(0, .ref (ad kk)), (1, .ref (ad 57)), (2, .int vn)] := hl
  obtain ⟨fz, hfz⟩ : ∃ z, F_sx_Row_beLike57 mu kk vn = z := ⟨_, rfl⟩
  have hF := hfz
  unfold F_sx_Row_beLike57 at hF
  refine lv_aload_n hx hb dX6_beLike_0 rfl (lv_at hl 1 rfl) ?_
  refine lv_iconst (v := 0) hx hb dX6_beLike_1 (by decide) ?_
  refine lv_aload_n hx hb dX6_beLike_2 rfl (lv_at hl 0 rfl) ?_
  have hk1 : 21 ≤ kk + 13 ∧ kk + 13 < 27 := add_in 13 h1kk h2kk
  refine va_get (D := (dC, dI)) (ci := 6) (v := .ref (ad (kk + 13))) (C := RX6) (T := TX6) (N := 2) hx hb hts inG6 hown hK hP kk (gX_row cs ad mu kk h1kk h2kk) rfl 0 (by decide) (hts _ (List.mem_cons_of_mem _ mw_2_129)) (fun _ h9 => h9) rfl dX6_beLike_3 ?_
  refine lv_iconst (v := 0) hx hb dX6_beLike_6 (by decide) ?_
  refine lv_iload_n hx hb dX6_beLike_7 rfl (lv_at hl 2 rfl) ?_
  refine va_copyi hx hb (hml.trans hl.1.symm) hown (hts _ (List.mem_cons_of_mem _ mw_4_56)) (hts _ (List.mem_cons_of_mem _ mw_3_4)) (hts _ (List.mem_cons_of_mem _ mw_3_3)) (hts _ (List.mem_cons_of_mem _ mw_1_15)) hK hP (wR_D mu hD) hS 57 (kk + 13) 0 0 (gX_57 cs ad mu) (gX_places cs ad mu (kk + 13) hk1.1 hk1.2) rfl rfl rfl (by decide) (by decide) (nlt_of (by omega)) (by have ua : ((0 : Int32).toNatClampNeg : Int) = 0 := rfl; have ub : ((0 : Int32).toNatClampNeg : Int) = 0 := rfl; have uc : ((vn : Int32).toNatClampNeg : Int) = vn.toInt := tC_of (by omega); omega) (by have ua : ((0 : Int32).toNatClampNeg : Int) = 0 := rfl; have ub : ((0 : Int32).toNatClampNeg : Int) = 0 := rfl; have uc : ((vn : Int32).toNatClampNeg : Int) = vn.toInt := tC_of (by omega); omega) (fun _ _ => rfl) (Nat.le_of_ble_eq_true rfl) (Nat.le_of_ble_eq_true rfl) dX6_beLike_8 (fun H locs hP _ hS => ?_)
  refine wr_gen (va_cpy (mu 57) (mu (kk + 13)) (0 : Int32).toNatClampNeg (0 : Int32).toNatClampNeg (vn : Int32).toNatClampNeg) hP ((by rw [EX_places cs ad _ _ hk1.1 hk1.2])) (fun nu2 hn2 hP => ?_)
  have hF := mi_let hF hn2.symm
  have ok := okR_cp ok hn2 (cX_57_places  (kk + 13) hk1.1 hk1.2)
  have kp3 : (∀ k f : Nat, Nat.testBit 510 (gpX k f) = true → nu2 k f = mu k f) := kp_c 0 hn2 (fun _ => gpX_places hk1.1 hk1.2) (by decide) (fun _ _ _ => rfl)
  refine lv_aload_n hx hb dX6_beLike_11 rfl (lv_at hl 0 rfl) ?_
  refine lv_iload_n hx hb dX6_beLike_12 rfl (lv_at hl 2 rfl) ?_
  refine va_put (D := (dC, dI)) (ci := 6) (v := .int vn) (ty := .int) (C := RX6) (T := TX6) (N := 2) hx hb hts inG6 tyX6 tyX6_ok nmX6 hown hK hP (wR_D nu2 hD) hS kk (gX_row cs ad nu2 kk h1kk h2kk) rfl 1 (by decide) (hts _ (List.mem_cons_of_mem _ mw_2_132)) (fun _ h9 => h9) rfl (by decide +kernel) rfl rfl (Nat.le_of_ble_eq_true rfl) dX6_beLike_13 (fun H locs hP _ hS => ?_)
  simp only [List.set_cons_succ, List.set_cons_zero] at hP
  refine wr_gen (upd (nu2 kk) 1 vn) hP ((hX_row_1 cs ad _ _ kk h1kk h2kk)) (fun nu4 hn4 hP => ?_)
  have hF := mi_let hF hn4.symm
  have ok := tX_row_1 ok kk h1kk h2kk hn4 (by omega)
  have kp5 : (∀ k f : Nat, Nat.testBit 510 (gpX k f) = true → nu4 k f = mu k f) := kp_c 0 hn4 (fun _ => gpX_row h1kk h2kk) (by decide) kp3
  have ez6 : vn = nu4 kk 1 := up_v hn4
  exact W.vret hx hb hr (fun t ht hW => ⟨⟨nu4, rfl, ⟨hF.trans hfz.symm, ok, trivial, kp5⟩, by first | (subst ht; exact hP) | (rw [ht]; exact hP) | (show va_P (dC, dI) vwCl (wR 157 ad (EX cs ad) nu4) t.heap; rw [ht]; exact hP)⟩, hS.F ht⟩) hS.2.2 dX6_beLike_16
set_option maxHeartbeats 4000000 in
set_option maxRecDepth 100000 in
/-- sx_Row_beLike58 -/
theorem sx_Row_beLike58 (l : Launch) (dC : Nat → ClassId) (dI : Nat → Nat → Nat) (cs : Nat → ClassId) (ad : Nat → Nat) (mu : Nat → Nat → Int32) (ok : okR loX hiX mu) (H : Heap) (hP : va_P (dC, dI) vwCl (wR 157 ad (EX cs ad) mu) H) (hD0 : va_D (fun _ => True) (wR 157 ad (EX cs ad) mu)) (kk : Nat) (h1kk : 8 ≤ kk) (h2kk : kk < 14) (vn : Int32) (hin0 : 0 ≤ vn.toInt ∧ vn.toInt ≤ 7) : Met l yX6_beLike (wU yX6_beLike cX6_beLike 3 none) ({ frames := 1, cells := 0, slots := 0, locals := 60 }) (va_Pc [.ref (ad kk), .ref (ad 58), .int vn] (sz_P (dC, dI) vwCl (tyW cs) H)) (va_Qv (fun (xi : Nat → Nat → Int32) => xi = F_sx_Row_beLike58 mu kk vn ∧ okR loX hiX xi ∧ (True) ∧ (∀ k f : Nat, Nat.testBit 510 (gpX k f) = true → xi k f = mu k f)) (fun xi t => va_P (dC, dI) vwCl (wR 157 ad (EX cs ad) xi) t.heap) (va_A (wR 157 ad (EX cs ad) mu) H.size)) 0 0 (va_A (wR 157 ad (EX cs ad) mu) H.size) := by
  refine Met.ofW (cc := cX6_beLike) (maxL := 3) (ret := none) (by decide) rfl ?_
  intro p e s m args below meth c s₁ B hml hv
  obtain ⟨rfl, hh, hK, hz⟩ := hv
  have hx := B.exec
  have hb := B.bytes
  have hr := B.returns
  have hts := atoms_spec (ws := (wU yX6_beLike cX6_beLike 3 none)) B.pre
  have hown : s.vm.findClass RX6 = some m.cls := findClass_of_methodNamed B.named
  have hlocks := B.notSynchronized
  subst hh
  have hD := hD0.self (sz := s.heap.size)
  have hA : ∀ q : Nat, s.heap.size ≤ q → (va_A (wR 157 ad (EX cs ad) mu) s.heap.size) q := fun q h => Or.inr h
  have hS : va_S (va_A (wR 157 ad (EX cs ad) mu) s.heap.size) s.heap s.heap [] := va_S.rf
  have hl := lv_entry ([.ref (ad kk), .ref (ad 58), .int vn]) (n := 3) (Nat.le_of_ble_eq_true rfl)
  rw [lg_entry_eq]
  generalize (lg_sl ([.ref (ad kk), .ref (ad 58), .int vn]) ++ List.replicate (3 - (lg_sl ([.ref (ad kk), .ref (ad 58), .int vn])).length) Slot.unset).toArray = ls at hl ⊢
  have hl : lv_has ls 3 [(0, .ref (ad kk)), (1, .ref (ad 58)), (2, .int vn)] := hl
  obtain ⟨fz, hfz⟩ : ∃ z, F_sx_Row_beLike58 mu kk vn = z := ⟨_, rfl⟩
  have hF := hfz
  unfold F_sx_Row_beLike58 at hF
  refine lv_aload_n hx hb dX6_beLike_0 rfl (lv_at hl 1 rfl) ?_
  refine lv_iconst (v := 0) hx hb dX6_beLike_1 (by decide) ?_
  refine lv_aload_n hx hb dX6_beLike_2 rfl (lv_at hl 0 rfl) ?_
  have hk1 : 21 ≤ kk + 13 ∧ kk + 13 < 27 := add_in 13 h1kk h2kk
  refine va_get (D := (dC, dI)) (ci := 6) (v := .ref (ad (kk + 13))) (C := RX6) (T := TX6) (N := 2) hx hb hts inG6 hown hK hP kk (gX_row cs ad mu kk h1kk h2kk) rfl 0 (by decide) (hts _ (List.mem_cons_of_mem _ mw_2_129)) (fun _ h9 => h9) rfl dX6_beLike_3 ?_
  refine lv_iconst (v := 0) hx hb dX6_beLike_6 (by decide) ?_
  refine lv_iload_n hx hb dX6_beLike_7 rfl (lv_at hl 2 rfl) ?_
  refine va_copyi hx hb (hml.trans hl.1.symm) hown (hts _ (List.mem_cons_of_mem _ mw_4_56)) (hts _ (List.mem_cons_of_mem _ mw_3_4)) (hts _ (List.mem_cons_of_mem _ mw_3_3)) (hts _ (List.mem_cons_of_mem _ mw_1_15)) hK hP (wR_D mu hD) hS 58 (kk + 13) 0 0 (gX_58 cs ad mu) (gX_places cs ad mu (kk + 13) hk1.1 hk1.2) rfl rfl rfl (by decide) (by decide) (nlt_of (by omega)) (by have ua : ((0 : Int32).toNatClampNeg : Int) = 0 := rfl; have ub : ((0 : Int32).toNatClampNeg : Int) = 0 := rfl; have uc : ((vn : Int32).toNatClampNeg : Int) = vn.toInt := tC_of (by omega); omega) (by have ua : ((0 : Int32).toNatClampNeg : Int) = 0 := rfl; have ub : ((0 : Int32).toNatClampNeg : Int) = 0 := rfl; have uc : ((vn : Int32).toNatClampNeg : Int) = vn.toInt := tC_of (by omega); omega) (fun _ _ => rfl) (Nat.le_of_ble_eq_true rfl) (Nat.le_of_ble_eq_true rfl) dX6_beLike_8 (fun H locs hP _ hS => ?_)
  refine wr_gen (va_cpy (mu 58) (mu (kk + 13)) (0 : Int32).toNatClampNeg (0 : Int32).toNatClampNeg (vn : Int32).toNatClampNeg) hP ((by rw [EX_places cs ad _ _ hk1.1 hk1.2])) (fun nu2 hn2 hP => ?_)
  have hF := mi_let hF hn2.symm
  have ok := okR_cp ok hn2 (cX_58_places  (kk + 13) hk1.1 hk1.2)
  have kp3 : (∀ k f : Nat, Nat.testBit 510 (gpX k f) = true → nu2 k f = mu k f) := kp_c 0 hn2 (fun _ => gpX_places hk1.1 hk1.2) (by decide) (fun _ _ _ => rfl)
  refine lv_aload_n hx hb dX6_beLike_11 rfl (lv_at hl 0 rfl) ?_
  refine lv_iload_n hx hb dX6_beLike_12 rfl (lv_at hl 2 rfl) ?_
  refine va_put (D := (dC, dI)) (ci := 6) (v := .int vn) (ty := .int) (C := RX6) (T := TX6) (N := 2) hx hb hts inG6 tyX6 tyX6_ok nmX6 hown hK hP (wR_D nu2 hD) hS kk (gX_row cs ad nu2 kk h1kk h2kk) rfl 1 (by decide) (hts _ (List.mem_cons_of_mem _ mw_2_132)) (fun _ h9 => h9) rfl (by decide +kernel) rfl rfl (Nat.le_of_ble_eq_true rfl) dX6_beLike_13 (fun H locs hP _ hS => ?_)
  simp only [List.set_cons_succ, List.set_cons_zero] at hP
  refine wr_gen (upd (nu2 kk) 1 vn) hP ((hX_row_1 cs ad _ _ kk h1kk h2kk)) (fun nu4 hn4 hP => ?_)
  have hF := mi_let hF hn4.symm
  have ok := tX_row_1 ok kk h1kk h2kk hn4 (by omega)
  have kp5 : (∀ k f : Nat, Nat.testBit 510 (gpX k f) = true → nu4 k f = mu k f) := kp_c 0 hn4 (fun _ => gpX_row h1kk h2kk) (by decide) kp3
  have ez6 : vn = nu4 kk 1 := up_v hn4
  exact W.vret hx hb hr (fun t ht hW => ⟨⟨nu4, rfl, ⟨hF.trans hfz.symm, ok, trivial, kp5⟩, by first | (subst ht; exact hP) | (rw [ht]; exact hP) | (show va_P (dC, dI) vwCl (wR 157 ad (EX cs ad) nu4) t.heap; rw [ht]; exact hP)⟩, hS.F ht⟩) hS.2.2 dX6_beLike_16
set_option maxHeartbeats 4000000 in
set_option maxRecDepth 100000 in
/-- sx_Row_beLike60 -/
theorem sx_Row_beLike60 (l : Launch) (dC : Nat → ClassId) (dI : Nat → Nat → Nat) (cs : Nat → ClassId) (ad : Nat → Nat) (mu : Nat → Nat → Int32) (ok : okR loX hiX mu) (H : Heap) (hP : va_P (dC, dI) vwCl (wR 157 ad (EX cs ad) mu) H) (hD0 : va_D (fun _ => True) (wR 157 ad (EX cs ad) mu)) (kk : Nat) (h1kk : 8 ≤ kk) (h2kk : kk < 14) (vn : Int32) (hin0 : 0 ≤ vn.toInt ∧ vn.toInt ≤ 7) : Met l yX6_beLike (wU yX6_beLike cX6_beLike 3 none) ({ frames := 1, cells := 0, slots := 0, locals := 60 }) (va_Pc [.ref (ad kk), .ref (ad 60), .int vn] (sz_P (dC, dI) vwCl (tyW cs) H)) (va_Qv (fun (xi : Nat → Nat → Int32) => xi = F_sx_Row_beLike60 mu kk vn ∧ okR loX hiX xi ∧ (True) ∧ (∀ k f : Nat, Nat.testBit 510 (gpX k f) = true → xi k f = mu k f)) (fun xi t => va_P (dC, dI) vwCl (wR 157 ad (EX cs ad) xi) t.heap) (va_A (wR 157 ad (EX cs ad) mu) H.size)) 0 0 (va_A (wR 157 ad (EX cs ad) mu) H.size) := by
  refine Met.ofW (cc := cX6_beLike) (maxL := 3) (ret := none) (by decide) rfl ?_
  intro p e s m args below meth c s₁ B hml hv
  obtain ⟨rfl, hh, hK, hz⟩ := hv
  have hx := B.exec
  have hb := B.bytes
  have hr := B.returns
  have hts := atoms_spec (ws := (wU yX6_beLike cX6_beLike 3 none)) B.pre
  have hown : s.vm.findClass RX6 = some m.cls := findClass_of_methodNamed B.named
  have hlocks := B.notSynchronized
  subst hh
  have hD := hD0.self (sz := s.heap.size)
  have hA : ∀ q : Nat, s.heap.size ≤ q → (va_A (wR 157 ad (EX cs ad) mu) s.heap.size) q := fun q h => Or.inr h
  have hS : va_S (va_A (wR 157 ad (EX cs ad) mu) s.heap.size) s.heap s.heap [] := va_S.rf
  have hl := lv_entry ([.ref (ad kk), .ref (ad 60), .int vn]) (n := 3) (Nat.le_of_ble_eq_true rfl)
  rw [lg_entry_eq]
  generalize (lg_sl ([.ref (ad kk), .ref (ad 60), .int vn]) ++ List.replicate (3 - (lg_sl ([.ref (ad kk), .ref (ad 60), .int vn])).length) Slot.unset).toArray = ls at hl ⊢
  have hl : lv_has ls 3 [(0, .ref (ad kk)), (1, .ref (ad 60)), (2, .int vn)] := hl
  obtain ⟨fz, hfz⟩ : ∃ z, F_sx_Row_beLike60 mu kk vn = z := ⟨_, rfl⟩
  have hF := hfz
  unfold F_sx_Row_beLike60 at hF
  refine lv_aload_n hx hb dX6_beLike_0 rfl (lv_at hl 1 rfl) ?_
  refine lv_iconst (v := 0) hx hb dX6_beLike_1 (by decide) ?_
  refine lv_aload_n hx hb dX6_beLike_2 rfl (lv_at hl 0 rfl) ?_
  have hk1 : 21 ≤ kk + 13 ∧ kk + 13 < 27 := add_in 13 h1kk h2kk
  refine va_get (D := (dC, dI)) (ci := 6) (v := .ref (ad (kk + 13))) (C := RX6) (T := TX6) (N := 2) hx hb hts inG6 hown hK hP kk (gX_row cs ad mu kk h1kk h2kk) rfl 0 (by decide) (hts _ (List.mem_cons_of_mem _ mw_2_129)) (fun _ h9 => h9) rfl dX6_beLike_3 ?_
  refine lv_iconst (v := 0) hx hb dX6_beLike_6 (by decide) ?_
  refine lv_iload_n hx hb dX6_beLike_7 rfl (lv_at hl 2 rfl) ?_
  refine va_copyi hx hb (hml.trans hl.1.symm) hown (hts _ (List.mem_cons_of_mem _ mw_4_56)) (hts _ (List.mem_cons_of_mem _ mw_3_4)) (hts _ (List.mem_cons_of_mem _ mw_3_3)) (hts _ (List.mem_cons_of_mem _ mw_1_15)) hK hP (wR_D mu hD) hS 60 (kk + 13) 0 0 (gX_60 cs ad mu) (gX_places cs ad mu (kk + 13) hk1.1 hk1.2) rfl rfl rfl (by decide) (by decide) (nlt_of (by omega)) (by have ua : ((0 : Int32).toNatClampNeg : Int) = 0 := rfl; have ub : ((0 : Int32).toNatClampNeg : Int) = 0 := rfl; have uc : ((vn : Int32).toNatClampNeg : Int) = vn.toInt := tC_of (by omega); omega) (by have ua : ((0 : Int32).toNatClampNeg : Int) = 0 := rfl; have ub : ((0 : Int32).toNatClampNeg : Int) = 0 := rfl; have uc : ((vn : Int32).toNatClampNeg : Int) = vn.toInt := tC_of (by omega); omega) (fun _ _ => rfl) (Nat.le_of_ble_eq_true rfl) (Nat.le_of_ble_eq_true rfl) dX6_beLike_8 (fun H locs hP _ hS => ?_)
  refine wr_gen (va_cpy (mu 60) (mu (kk + 13)) (0 : Int32).toNatClampNeg (0 : Int32).toNatClampNeg (vn : Int32).toNatClampNeg) hP ((by rw [EX_places cs ad _ _ hk1.1 hk1.2])) (fun nu2 hn2 hP => ?_)
  have hF := mi_let hF hn2.symm
  have ok := okR_cp ok hn2 (cX_60_places  (kk + 13) hk1.1 hk1.2)
  have kp3 : (∀ k f : Nat, Nat.testBit 510 (gpX k f) = true → nu2 k f = mu k f) := kp_c 0 hn2 (fun _ => gpX_places hk1.1 hk1.2) (by decide) (fun _ _ _ => rfl)
  refine lv_aload_n hx hb dX6_beLike_11 rfl (lv_at hl 0 rfl) ?_
  refine lv_iload_n hx hb dX6_beLike_12 rfl (lv_at hl 2 rfl) ?_
  refine va_put (D := (dC, dI)) (ci := 6) (v := .int vn) (ty := .int) (C := RX6) (T := TX6) (N := 2) hx hb hts inG6 tyX6 tyX6_ok nmX6 hown hK hP (wR_D nu2 hD) hS kk (gX_row cs ad nu2 kk h1kk h2kk) rfl 1 (by decide) (hts _ (List.mem_cons_of_mem _ mw_2_132)) (fun _ h9 => h9) rfl (by decide +kernel) rfl rfl (Nat.le_of_ble_eq_true rfl) dX6_beLike_13 (fun H locs hP _ hS => ?_)
  simp only [List.set_cons_succ, List.set_cons_zero] at hP
  refine wr_gen (upd (nu2 kk) 1 vn) hP ((hX_row_1 cs ad _ _ kk h1kk h2kk)) (fun nu4 hn4 hP => ?_)
  have hF := mi_let hF hn4.symm
  have ok := tX_row_1 ok kk h1kk h2kk hn4 (by omega)
  have kp5 : (∀ k f : Nat, Nat.testBit 510 (gpX k f) = true → nu4 k f = mu k f) := kp_c 0 hn4 (fun _ => gpX_row h1kk h2kk) (by decide) kp3
  have ez6 : vn = nu4 kk 1 := up_v hn4
  exact W.vret hx hb hr (fun t ht hW => ⟨⟨nu4, rfl, ⟨hF.trans hfz.symm, ok, trivial, kp5⟩, by first | (subst ht; exact hP) | (rw [ht]; exact hP) | (show va_P (dC, dI) vwCl (wR 157 ad (EX cs ad) nu4) t.heap; rw [ht]; exact hP)⟩, hS.F ht⟩) hS.2.2 dX6_beLike_16
set_option maxHeartbeats 4000000 in
set_option maxRecDepth 100000 in
/-- sx_holds -/
theorem sx_holds (l : Launch) (dC : Nat → ClassId) (dI : Nat → Nat → Nat) (cs : Nat → ClassId) (ad : Nat → Nat) (mu : Nat → Nat → Int32) (ok : okR loX hiX mu) (H : Heap) (hP : va_P (dC, dI) vwCl (wR 157 ad (EX cs ad) mu) H) (kk : Nat) (h1kk : 8 ≤ kk) (h2kk : kk < 14) (vi : Int32) (vn : Int32) : Met l yX6_holds (wU yX6_holds cX6_holds 3 (some .boolean)) ({ frames := 0, cells := 0, slots := 0, locals := 0 }) (va_Pc [.ref (ad kk), .int vi, .int vn] (sz_P (dC, dI) vwCl (tyW cs) H)) (va_Qi (fun (z : Int32) (_ : Unit) => (z = 1 ∧ (0 ≤ vi.toInt ∧ vi.toInt ≤ (mu kk 1).toInt ∧ vn.toInt ≤ (mu kk 1).toInt - vi.toInt ∧ (mu kk 1).toInt ≤ 40)) ∨ (z = 0 ∧ (True))) (fun _ t => t.heap = H) (fun _ => False)) 0 0 (fun _ => False) := by
  refine Met.ofW (cc := cX6_holds) (maxL := 3) (ret := (some .boolean)) (by decide) rfl ?_
  intro p e s m args below meth c s₁ B hml hv
  obtain ⟨rfl, hh, hK, hz⟩ := hv
  have hx := B.exec
  have hb := B.bytes
  have hr := B.returns
  have hts := atoms_spec (ws := (wU yX6_holds cX6_holds 3 (some .boolean))) B.pre
  have hown : s.vm.findClass RX6 = some m.cls := findClass_of_methodNamed B.named
  have hlocks := B.notSynchronized
  subst hh
  have hS : va_S (fun _ => False) s.heap s.heap [] := va_S.rf
  have hl := lv_entry ([.ref (ad kk), .int vi, .int vn]) (n := 3) (Nat.le_of_ble_eq_true rfl)
  rw [lg_entry_eq]
  generalize (lg_sl ([.ref (ad kk), .int vi, .int vn]) ++ List.replicate (3 - (lg_sl ([.ref (ad kk), .int vi, .int vn])).length) Slot.unset).toArray = ls at hl ⊢
  have hl : lv_has ls 3 [(0, .ref (ad kk)), (1, .int vi), (2, .int vn)] := hl
  refine lv_iload_n hx hb dX6_holds_0 rfl (lv_at hl 1 rfl) ?_
  refine lv_if_lt (tgt := 26) hx hb dX6_holds_1 (by decide) (fun c_1 => ?_) (fun c_1 => ?_)
  · have c_1 : vi.toInt < 0 := il_lt c_1
    refine lv_iconst (v := 0) hx hb dX6_holds_26 (by decide) ?_
    exact W.zret (v := 0) (ty := .boolean) hx hb hr (by first | rfl | decide) (fun t ht hW => ⟨⟨0, (), rfl, (Or.inr ⟨rfl, by trivial⟩), ht⟩, hS.F ht⟩) hS.2.2 dX6_holds_27
  · have c_1 : 0 ≤ vi.toInt := il_nlt c_1
    refine lv_iload_n hx hb dX6_holds_4 rfl (lv_at hl 1 rfl) ?_
    refine lv_aload_n hx hb dX6_holds_5 rfl (lv_at hl 0 rfl) ?_
    refine va_get (D := (dC, dI)) (ci := 6) (v := .int (mu kk 1)) (C := RX6) (T := TX6) (N := 2) hx hb hts inG6 hown hK hP kk (gX_row cs ad mu kk h1kk h2kk) rfl 1 (by decide) (hts _ (List.mem_cons_of_mem _ mw_2_132)) (fun _ h9 => h9) rfl dX6_holds_6 ?_
    refine lv_topi (fun y2 ey2 => ?_)
    have by2 : y2.toInt = (mu kk 1).toInt := congrArg Int32.toInt ey2
    have gy2 : -1 ≤ y2.toInt ∧ y2.toInt ≤ 40 := by rw [ey2]; exact rX_row_1 ok kk h1kk h2kk
    refine lv_icmp_gt (tgt := 26) hx hb dX6_holds_9 (by decide) (fun c_3 => ?_) (fun c_3 => ?_)
    · have c_3 : y2.toInt < vi.toInt := il_lt c_3
      refine lv_iconst (v := 0) hx hb dX6_holds_26 (by decide) ?_
      exact W.zret (v := 0) (ty := .boolean) hx hb hr (by first | rfl | decide) (fun t ht hW => ⟨⟨0, (), rfl, (Or.inr ⟨rfl, by trivial⟩), ht⟩, hS.F ht⟩) hS.2.2 dX6_holds_27
    · have c_3 : vi.toInt ≤ y2.toInt := il_nlt c_3
      refine lv_iload_n hx hb dX6_holds_12 rfl (lv_at hl 2 rfl) ?_
      refine lv_aload_n hx hb dX6_holds_13 rfl (lv_at hl 0 rfl) ?_
      refine va_get (D := (dC, dI)) (ci := 6) (v := .int (mu kk 1)) (C := RX6) (T := TX6) (N := 2) hx hb hts inG6 hown hK hP kk (gX_row cs ad mu kk h1kk h2kk) rfl 1 (by decide) (hts _ (List.mem_cons_of_mem _ mw_2_132)) (fun _ h9 => h9) rfl dX6_holds_14 ?_
      refine lq_i y2 ey2.symm ?_
      refine lv_iload_n hx hb dX6_holds_17 rfl (lv_at hl 1 rfl) ?_
      refine lv_isub hx hb dX6_holds_18 ?_
      refine lv_topi (fun t4 et4 => ?_)
      have at4 : t4.toInt = y2.toInt - vi.toInt := by rw [et4]; exact tI_sub (rfl : y2.toInt = _) (rfl : vi.toInt = _) (by omega) (by omega)
      refine lv_icmp_gt (tgt := 26) hx hb dX6_holds_19 (by decide) (fun c_5 => ?_) (fun c_5 => ?_)
      · have c_5 : t4.toInt < vn.toInt := il_lt c_5
        refine lv_iconst (v := 0) hx hb dX6_holds_26 (by decide) ?_
        exact W.zret (v := 0) (ty := .boolean) hx hb hr (by first | rfl | decide) (fun t ht hW => ⟨⟨0, (), rfl, (Or.inr ⟨rfl, by trivial⟩), ht⟩, hS.F ht⟩) hS.2.2 dX6_holds_27
      · have c_5 : vn.toInt ≤ t4.toInt := il_nlt c_5
        refine lv_iconst (v := 1) hx hb dX6_holds_22 (by decide) ?_
        refine lv_goto (tgt := 27) hx hb dX6_holds_23 (by decide) ?_
        exact W.zret (v := 1) (ty := .boolean) hx hb hr (by first | rfl | decide) (fun t ht hW => ⟨⟨1, (), rfl, (Or.inl ⟨rfl, by have hb6 := congrArg Int32.toInt ey2; omega⟩), ht⟩, hS.F ht⟩) hS.2.2 dX6_holds_27
set_option maxHeartbeats 4000000 in
set_option maxRecDepth 100000 in
/-- sx_Row_digestOn -/
theorem sx_Row_digestOn (l : Launch) (dC : Nat → ClassId) (dI : Nat → Nat → Nat) (cs : Nat → ClassId) (ad : Nat → Nat) (mu : Nat → Nat → Int32) (ok : okR loX hiX mu) (H : Heap) (hP : va_P (dC, dI) vwCl (wR 157 ad (EX cs ad) mu) H) (kk : Nat) (h1kk : 8 ≤ kk) (h2kk : kk < 14) (lb : Int64) : Met l yX6_digestOn (wU yX6_digestOn cX6_digestOn 6 (some .long)) ({ frames := 0, cells := 0, slots := 0, locals := 0 }) (va_Pc [.ref (ad kk), .long lb] (sz_P (dC, dI) vwCl (tyW cs) H)) (va_Ql (fun (z : Int64) (_ : Unit) => True) (fun _ t => t.heap = H) (fun _ => False)) 0 0 (fun _ => False) := by
  refine Met.ofW (cc := cX6_digestOn) (maxL := 6) (ret := (some .long)) (by decide) rfl ?_
  intro p e s m args below meth c s₁ B hml hv
  obtain ⟨rfl, hh, hK, hz⟩ := hv
  have hx := B.exec
  have hb := B.bytes
  have hr := B.returns
  have hts := atoms_spec (ws := (wU yX6_digestOn cX6_digestOn 6 (some .long))) B.pre
  have hown : s.vm.findClass RX6 = some m.cls := findClass_of_methodNamed B.named
  have hlocks := B.notSynchronized
  subst hh
  have hS : va_S (fun _ => False) s.heap s.heap [] := va_S.rf
  have hl := lv_entry ([.ref (ad kk), .long lb]) (n := 6) (Nat.le_of_ble_eq_true rfl)
  rw [lg_entry_eq]
  generalize (lg_sl ([.ref (ad kk), .long lb]) ++ List.replicate (6 - (lg_sl ([.ref (ad kk), .long lb])).length) Slot.unset).toArray = ls at hl ⊢
  have hl : lv_has ls 6 [(0, .ref (ad kk)), (1, .long lb)] := hl
  refine lv_ldc2 (v := 31) hx hb hown (hts _ (List.mem_cons_of_mem _ mw_5_29)) dX6_digestOn_0 ?_
  refine lv_lload_n hx hb dX6_digestOn_3 rfl (lv_at hl 1 rfl) ?_
  refine lv_lmul hx hb dX6_digestOn_4 ?_
  refine lv_topl (fun l1 el1 => ?_)
  refine lv_aload_n hx hb dX6_digestOn_5 rfl (lv_at hl 0 rfl) ?_
  refine va_get (D := (dC, dI)) (ci := 6) (v := .int (mu kk 1)) (C := RX6) (T := TX6) (N := 2) hx hb hts inG6 hown hK hP kk (gX_row cs ad mu kk h1kk h2kk) rfl 1 (by decide) (hts _ (List.mem_cons_of_mem _ mw_2_132)) (fun _ h9 => h9) rfl dX6_digestOn_6 ?_
  refine lv_topi (fun y2 ey2 => ?_)
  have by2 : y2.toInt = (mu kk 1).toInt := congrArg Int32.toInt ey2
  have gy2 : -1 ≤ y2.toInt ∧ y2.toInt ≤ 40 := by rw [ey2]; exact rX_row_1 ok kk h1kk h2kk
  refine lv_i2l hx hb dX6_digestOn_9 rfl ?_
  refine lv_topl (fun l3 el3 => ?_)
  refine lv_ladd hx hb dX6_digestOn_10 ?_
  refine lv_topl (fun l4 el4 => ?_)
  refine lv_lstore_n (lv' := [(3, .long l4), (0, .ref (ad kk)), (1, .long lb)]) hx hb dX6_digestOn_11 rfl hl (by decide) rfl (fun ls hl => ?_)
  refine lv_iconst (v := 0) hx hb dX6_digestOn_12 (by decide) ?_
  refine lv_istore (lv' := [(5, .int 0), (3, .long l4), (0, .ref (ad kk)), (1, .long lb)]) hx hb dX6_digestOn_13 hl (by decide) rfl (fun ls hl => ?_)
  have loop15 : ∀ (n15 : Nat) (v3_15 : Int64) (v5_15 : Int32) (locs : List Loc) (ls : Array Slot), (40 + 1 - v5_15.toInt).toNat < n15 → (0 ≤ v5_15.toInt ∧ v5_15.toInt ≤ 40) → va_S (fun _ => False) s.heap s.heap locs → lv_has ls 6 [(5, .int v5_15), (3, .long v3_15), (0, .ref (ad kk)), (1, .long lb)] → W p l e (headSpec (wU yX6_digestOn cX6_digestOn 6 (some .long)) ({ frames := 0, cells := 0, slots := 0, locals := 0 })).room s m ([.ref (ad kk), .long lb] : List Value).toArray below meth c s.heap locs 0 0 (MQ below (va_Ql (fun (z : Int64) (_ : Unit) => True) (fun _ t => t.heap = s.heap) (fun _ => False)) ([.ref (ad kk), .long lb] : List Value).toArray s 0 0 (fun _ => False)) (F0 m 15 ls []) := by
    intro n15
    induction n15 with
    | zero => intro v3_15 v5_15 locs ls hm; exact absurd hm (Nat.not_lt_zero _)
    | succ n15 ih15 =>
      intro v3_15 v5_15 locs ls hm_15 h_v5_15 hS hl
      refine lv_iload hx hb dX6_digestOn_15 (lv_at hl 0 rfl) ?_
      refine lv_aload_n hx hb dX6_digestOn_17 rfl (lv_at hl 2 rfl) ?_
      refine va_get (D := (dC, dI)) (ci := 6) (v := .int (mu kk 1)) (C := RX6) (T := TX6) (N := 2) hx hb hts inG6 hown hK hP kk (gX_row cs ad mu kk h1kk h2kk) rfl 1 (by decide) (hts _ (List.mem_cons_of_mem _ mw_2_132)) (fun _ h9 => h9) rfl dX6_digestOn_18 ?_
      refine lq_i y2 ey2.symm ?_
      refine lv_icmp_ge (tgt := 45) hx hb dX6_digestOn_21 (by decide) (fun c_5 => ?_) (fun c_5 => ?_)
      · have c_5 : y2.toInt ≤ v5_15.toInt := il_le c_5
        refine lv_lload_n hx hb dX6_digestOn_45 rfl (lv_at hl 1 rfl) ?_
        exact W.lret (v := v3_15) hx hb hr (fun t ht hW => ⟨⟨v3_15, (), rfl, trivial, ht⟩, hS.F ht⟩) hS.2.2 dX6_digestOn_46
      · have c_5 : v5_15.toInt < y2.toInt := il_nle c_5
        refine lv_ldc2 (v := 31) hx hb hown (hts _ (List.mem_cons_of_mem _ mw_5_29)) dX6_digestOn_24 ?_
        refine lv_lload_n hx hb dX6_digestOn_27 rfl (lv_at hl 1 rfl) ?_
        refine lv_lmul hx hb dX6_digestOn_28 ?_
        refine lv_topl (fun l6 el6 => ?_)
        refine lv_aload_n hx hb dX6_digestOn_29 rfl (lv_at hl 2 rfl) ?_
        have hk7 : 21 ≤ kk + 13 ∧ kk + 13 < 27 := add_in 13 h1kk h2kk
        refine va_get (D := (dC, dI)) (ci := 6) (v := .ref (ad (kk + 13))) (C := RX6) (T := TX6) (N := 2) hx hb hts inG6 hown hK hP kk (gX_row cs ad mu kk h1kk h2kk) rfl 0 (by decide) (hts _ (List.mem_cons_of_mem _ mw_2_129)) (fun _ h9 => h9) rfl dX6_digestOn_30 ?_
        refine lv_iload hx hb dX6_digestOn_33 (lv_at hl 0 rfl) ?_
        refine va_iald hx hb hK hP (kk + 13) 0 (gX_places cs ad mu (kk + 13) hk7.1 hk7.2) rfl (show vp_in v5_15 40 from vi_of (by omega) (by omega)) dX6_digestOn_35 ?_
        refine lv_topi (fun y8 ey8 => ?_)
        have by8 : y8.toInt = (mu (kk + 13) v5_15.toNatClampNeg).toInt := congrArg Int32.toInt ey8
        refine lv_i2l hx hb dX6_digestOn_36 rfl ?_
        refine lv_topl (fun l9 el9 => ?_)
        refine lv_ladd hx hb dX6_digestOn_37 ?_
        refine lv_topl (fun l10 el10 => ?_)
        refine lv_lstore_n (lv' := [(3, .long l10), (5, .int v5_15), (0, .ref (ad kk)), (1, .long lb)]) hx hb dX6_digestOn_38 rfl hl (by decide) rfl (fun ls hl => ?_)
        refine lv_iinc (v := (v5_15 + 1)) (lv' := [(5, .int (v5_15 + 1)), (3, .long l10), (0, .ref (ad kk)), (1, .long lb)]) hx hb dX6_digestOn_39 hl (k := 1) rfl rfl (by decide) rfl (fun ls hl => ?_)
        refine loc_gen (P := fun w9 => lv_has ls 6 [(5, .int w9), (3, .long l10), (0, .ref (ad kk)), (1, .long lb)]) (v5_15 + 1) hl (fun w11 hw11 hl => ?_)
        have hl : lv_has ls 6 [(5, .int w11), (3, .long l10), (0, .ref (ad kk)), (1, .long lb)] := hl
        have aw11 : w11.toInt = v5_15.toInt + 1 := by rw [← hw11]; exact va1 (by omega)
        refine lv_goto (tgt := 15) hx hb dX6_digestOn_42 (by decide) ?_
        exact ih15 (l10) (w11)  _ _ (by first | exact ms_lt hm_15 (by omega) (by omega) | omega) (by omega)   hS (lv_sub hl [0, 1, 2, 3] rfl)
  exact loop15 ((40 + 1 - (0 : Int32).toInt).toNat + 1) (l4) (0)  _ _ (Nat.lt_succ_self _) (by have h80 : (0 : Int32).toInt = 0 := rfl; exact ⟨by omega, by omega⟩)   hS hl
set_option maxHeartbeats 4000000 in
set_option maxRecDepth 100000 in
/-- sx_Text_digestOn -/
theorem sx_Text_digestOn (l : Launch) (dC : Nat → ClassId) (dI : Nat → Nat → Nat) (cs : Nat → ClassId) (ad : Nat → Nat) (mu : Nat → Nat → Int32) (ok : okR loX hiX mu) (H : Heap) (hP : va_P (dC, dI) vwCl (wR 157 ad (EX cs ad) mu) H) (kk : Nat) (h1kk : 14 ≤ kk) (h2kk : kk < 18) (lb : Int64) : Met l yX9_digestOn (wU yX9_digestOn cX9_digestOn 6 (some .long)) ({ frames := 0, cells := 0, slots := 0, locals := 0 }) (va_Pc [.ref (ad kk), .long lb] (sz_P (dC, dI) vwCl (tyW cs) H)) (va_Ql (fun (z : Int64) (_ : Unit) => True) (fun _ t => t.heap = H) (fun _ => False)) 0 0 (fun _ => False) := by
  refine Met.ofW (cc := cX9_digestOn) (maxL := 6) (ret := (some .long)) (by decide) rfl ?_
  intro p e s m args below meth c s₁ B hml hv
  obtain ⟨rfl, hh, hK, hz⟩ := hv
  have hx := B.exec
  have hb := B.bytes
  have hr := B.returns
  have hts := atoms_spec (ws := (wU yX9_digestOn cX9_digestOn 6 (some .long))) B.pre
  have hown : s.vm.findClass RX9 = some m.cls := findClass_of_methodNamed B.named
  have hlocks := B.notSynchronized
  subst hh
  have hS : va_S (fun _ => False) s.heap s.heap [] := va_S.rf
  have hl := lv_entry ([.ref (ad kk), .long lb]) (n := 6) (Nat.le_of_ble_eq_true rfl)
  rw [lg_entry_eq]
  generalize (lg_sl ([.ref (ad kk), .long lb]) ++ List.replicate (6 - (lg_sl ([.ref (ad kk), .long lb])).length) Slot.unset).toArray = ls at hl ⊢
  have hl : lv_has ls 6 [(0, .ref (ad kk)), (1, .long lb)] := hl
  refine lv_ldc2 (v := 31) hx hb hown (hts _ (List.mem_cons_of_mem _ mw_5_34)) dX9_digestOn_0 ?_
  refine lv_lload_n hx hb dX9_digestOn_3 rfl (lv_at hl 1 rfl) ?_
  refine lv_lmul hx hb dX9_digestOn_4 ?_
  refine lv_topl (fun l1 el1 => ?_)
  refine lv_aload_n hx hb dX9_digestOn_5 rfl (lv_at hl 0 rfl) ?_
  refine va_get (D := (dC, dI)) (ci := 9) (v := .int (mu kk 1)) (C := RX9) (T := TX9) (N := 2) hx hb hts inG9 hown hK hP kk (gX_text cs ad mu kk h1kk h2kk) rfl 1 (by decide) (hts _ (List.mem_cons_of_mem _ mw_2_148)) (fun _ h9 => h9) rfl dX9_digestOn_6 ?_
  refine lv_topi (fun y2 ey2 => ?_)
  have by2 : y2.toInt = (mu kk 1).toInt := congrArg Int32.toInt ey2
  have gy2 : -1 ≤ y2.toInt ∧ y2.toInt ≤ 80 := by rw [ey2]; exact rX_text_1 ok kk h1kk h2kk
  refine lv_i2l hx hb dX9_digestOn_9 rfl ?_
  refine lv_topl (fun l3 el3 => ?_)
  refine lv_ladd hx hb dX9_digestOn_10 ?_
  refine lv_topl (fun l4 el4 => ?_)
  refine lv_lstore_n (lv' := [(3, .long l4), (0, .ref (ad kk)), (1, .long lb)]) hx hb dX9_digestOn_11 rfl hl (by decide) rfl (fun ls hl => ?_)
  refine lv_iconst (v := 0) hx hb dX9_digestOn_12 (by decide) ?_
  refine lv_istore (lv' := [(5, .int 0), (3, .long l4), (0, .ref (ad kk)), (1, .long lb)]) hx hb dX9_digestOn_13 hl (by decide) rfl (fun ls hl => ?_)
  have loop15 : ∀ (n15 : Nat) (v3_15 : Int64) (v5_15 : Int32) (locs : List Loc) (ls : Array Slot), (80 + 1 - v5_15.toInt).toNat < n15 → (0 ≤ v5_15.toInt ∧ v5_15.toInt ≤ 80) → va_S (fun _ => False) s.heap s.heap locs → lv_has ls 6 [(5, .int v5_15), (3, .long v3_15), (0, .ref (ad kk)), (1, .long lb)] → W p l e (headSpec (wU yX9_digestOn cX9_digestOn 6 (some .long)) ({ frames := 0, cells := 0, slots := 0, locals := 0 })).room s m ([.ref (ad kk), .long lb] : List Value).toArray below meth c s.heap locs 0 0 (MQ below (va_Ql (fun (z : Int64) (_ : Unit) => True) (fun _ t => t.heap = s.heap) (fun _ => False)) ([.ref (ad kk), .long lb] : List Value).toArray s 0 0 (fun _ => False)) (F0 m 15 ls []) := by
    intro n15
    induction n15 with
    | zero => intro v3_15 v5_15 locs ls hm; exact absurd hm (Nat.not_lt_zero _)
    | succ n15 ih15 =>
      intro v3_15 v5_15 locs ls hm_15 h_v5_15 hS hl
      refine lv_iload hx hb dX9_digestOn_15 (lv_at hl 0 rfl) ?_
      refine lv_aload_n hx hb dX9_digestOn_17 rfl (lv_at hl 2 rfl) ?_
      refine va_get (D := (dC, dI)) (ci := 9) (v := .int (mu kk 1)) (C := RX9) (T := TX9) (N := 2) hx hb hts inG9 hown hK hP kk (gX_text cs ad mu kk h1kk h2kk) rfl 1 (by decide) (hts _ (List.mem_cons_of_mem _ mw_2_148)) (fun _ h9 => h9) rfl dX9_digestOn_18 ?_
      refine lq_i y2 ey2.symm ?_
      refine lv_icmp_ge (tgt := 45) hx hb dX9_digestOn_21 (by decide) (fun c_5 => ?_) (fun c_5 => ?_)
      · have c_5 : y2.toInt ≤ v5_15.toInt := il_le c_5
        refine lv_lload_n hx hb dX9_digestOn_45 rfl (lv_at hl 1 rfl) ?_
        exact W.lret (v := v3_15) hx hb hr (fun t ht hW => ⟨⟨v3_15, (), rfl, trivial, ht⟩, hS.F ht⟩) hS.2.2 dX9_digestOn_46
      · have c_5 : v5_15.toInt < y2.toInt := il_nle c_5
        refine lv_ldc2 (v := 31) hx hb hown (hts _ (List.mem_cons_of_mem _ mw_5_34)) dX9_digestOn_24 ?_
        refine lv_lload_n hx hb dX9_digestOn_27 rfl (lv_at hl 1 rfl) ?_
        refine lv_lmul hx hb dX9_digestOn_28 ?_
        refine lv_topl (fun l6 el6 => ?_)
        refine lv_aload_n hx hb dX9_digestOn_29 rfl (lv_at hl 2 rfl) ?_
        have hk7 : 27 ≤ kk + 13 ∧ kk + 13 < 31 := add_in 13 h1kk h2kk
        refine va_get (D := (dC, dI)) (ci := 9) (v := .ref (ad (kk + 13))) (C := RX9) (T := TX9) (N := 2) hx hb hts inG9 hown hK hP kk (gX_text cs ad mu kk h1kk h2kk) rfl 0 (by decide) (hts _ (List.mem_cons_of_mem _ mw_2_145)) (fun _ h9 => h9) rfl dX9_digestOn_30 ?_
        refine lv_iload hx hb dX9_digestOn_33 (lv_at hl 0 rfl) ?_
        refine va_bald hx hb hK hP (kk + 13) 1 (gX_bytes cs ad mu (kk + 13) hk7.1 hk7.2) rfl (show vp_in v5_15 80 from vi_of (by omega) (by omega)) dX9_digestOn_35 ?_
        refine lv_topi (fun y8 ey8 => ?_)
        have by8 : y8.toInt = (mu (kk + 13) v5_15.toNatClampNeg).toInt := congrArg Int32.toInt ey8
        have gy8 : -128 ≤ y8.toInt ∧ y8.toInt ≤ 127 := by rw [ey8]; exact rX_bytes_s ok (kk + 13) hk7.1 hk7.2 v5_15.toNatClampNeg
        refine lv_i2l hx hb dX9_digestOn_36 rfl ?_
        refine lv_topl (fun l9 el9 => ?_)
        refine lv_ladd hx hb dX9_digestOn_37 ?_
        refine lv_topl (fun l10 el10 => ?_)
        refine lv_lstore_n (lv' := [(3, .long l10), (5, .int v5_15), (0, .ref (ad kk)), (1, .long lb)]) hx hb dX9_digestOn_38 rfl hl (by decide) rfl (fun ls hl => ?_)
        refine lv_iinc (v := (v5_15 + 1)) (lv' := [(5, .int (v5_15 + 1)), (3, .long l10), (0, .ref (ad kk)), (1, .long lb)]) hx hb dX9_digestOn_39 hl (k := 1) rfl rfl (by decide) rfl (fun ls hl => ?_)
        refine loc_gen (P := fun w9 => lv_has ls 6 [(5, .int w9), (3, .long l10), (0, .ref (ad kk)), (1, .long lb)]) (v5_15 + 1) hl (fun w11 hw11 hl => ?_)
        have hl : lv_has ls 6 [(5, .int w11), (3, .long l10), (0, .ref (ad kk)), (1, .long lb)] := hl
        have aw11 : w11.toInt = v5_15.toInt + 1 := by rw [← hw11]; exact va1 (by omega)
        refine lv_goto (tgt := 15) hx hb dX9_digestOn_42 (by decide) ?_
        exact ih15 (l10) (w11)  _ _ (by first | exact ms_lt hm_15 (by omega) (by omega) | omega) (by omega)   hS (lv_sub hl [0, 1, 2, 3] rfl)
  exact loop15 ((80 + 1 - (0 : Int32).toInt).toNat + 1) (l4) (0)  _ _ (Nat.lt_succ_self _) (by have h80 : (0 : Int32).toInt = 0 := rfl; exact ⟨by omega, by omega⟩)   hS hl
set_option maxHeartbeats 4000000 in
set_option maxRecDepth 100000 in
/-- sx_figureAt -/
theorem sx_figureAt (l : Launch) (dC : Nat → ClassId) (dI : Nat → Nat → Nat) (cs : Nat → ClassId) (ad : Nat → Nat) (mu : Nat → Nat → Int32) (ok : okR loX hiX mu) (H : Heap) (hP : va_P (dC, dI) vwCl (wR 157 ad (EX cs ad) mu) H) (kk : Nat) (h1kk : 14 ≤ kk) (h2kk : kk < 18) (vi : Int32) : Met l yX9_figureAt (wU yX9_figureAt cX9_figureAt 2 (some .int)) ({ frames := 0, cells := 0, slots := 0, locals := 0 }) (va_Pc [.ref (ad kk), .int vi] (sz_P (dC, dI) vwCl (tyW cs) H)) (va_Qi (fun (z : Int32) (_ : Unit) => z = F_sx_figureAt mu kk vi ∧ ((z.toInt = -9 ∨ 0 ≤ z.toInt) ∧ -9 ≤ z.toInt ∧ z.toInt ≤ 9)) (fun _ t => t.heap = H) (fun _ => False)) 0 0 (fun _ => False) := by
  refine Met.ofW (cc := cX9_figureAt) (maxL := 2) (ret := (some .int)) (by decide) rfl ?_
  intro p e s m args below meth c s₁ B hml hv
  obtain ⟨rfl, hh, hK, hz⟩ := hv
  have hx := B.exec
  have hb := B.bytes
  have hr := B.returns
  have hts := atoms_spec (ws := (wU yX9_figureAt cX9_figureAt 2 (some .int))) B.pre
  have hown : s.vm.findClass RX9 = some m.cls := findClass_of_methodNamed B.named
  have hlocks := B.notSynchronized
  subst hh
  have hS : va_S (fun _ => False) s.heap s.heap [] := va_S.rf
  have hl := lv_entry ([.ref (ad kk), .int vi]) (n := 2) (Nat.le_of_ble_eq_true rfl)
  rw [lg_entry_eq]
  generalize (lg_sl ([.ref (ad kk), .int vi]) ++ List.replicate (2 - (lg_sl ([.ref (ad kk), .int vi])).length) Slot.unset).toArray = ls at hl ⊢
  have hl : lv_has ls 2 [(0, .ref (ad kk)), (1, .int vi)] := hl
  obtain ⟨fz, hfz⟩ : ∃ z, F_sx_figureAt mu kk vi = z := ⟨_, rfl⟩
  have hF := hfz
  unfold F_sx_figureAt at hF
  refine lv_iload_n hx hb dX9_figureAt_0 rfl (lv_at hl 1 rfl) ?_
  refine lv_if_lt (tgt := 34) hx hb dX9_figureAt_1 (by decide) (fun c_1 => ?_) (fun c_1 => ?_)
  · have hF := (if_pos c_1).symm.trans hF
    have c_1 : vi.toInt < 0 := il_lt c_1
    refine lv_bipush (v := (-9)) hx hb dX9_figureAt_34 (by decide) ?_
    exact W.iret (v := (-9)) hx hb hr (fun t ht hW => ⟨⟨(-9), (), rfl, ⟨hF.trans hfz.symm, (by have h6 : ((-9) : Int32).toInt = -9 := rfl; omega)⟩, ht⟩, hS.F ht⟩) hS.2.2 dX9_figureAt_36
  · have hF := (if_neg c_1).symm.trans hF
    have c_1 : 0 ≤ vi.toInt := il_nlt c_1
    refine lv_iload_n hx hb dX9_figureAt_4 rfl (lv_at hl 1 rfl) ?_
    refine lv_aload_n hx hb dX9_figureAt_5 rfl (lv_at hl 0 rfl) ?_
    refine va_get (D := (dC, dI)) (ci := 9) (v := .int (mu kk 1)) (C := RX9) (T := TX9) (N := 2) hx hb hts inG9 hown hK hP kk (gX_text cs ad mu kk h1kk h2kk) rfl 1 (by decide) (hts _ (List.mem_cons_of_mem _ mw_2_148)) (fun _ h9 => h9) rfl dX9_figureAt_6 ?_
    refine lv_topi (fun y2 ey2 => ?_)
    have hF := mi_let hF ey2
    have by2 : y2.toInt = (mu kk 1).toInt := congrArg Int32.toInt ey2
    have gy2 : -1 ≤ y2.toInt ∧ y2.toInt ≤ 80 := by rw [ey2]; exact rX_text_1 ok kk h1kk h2kk
    refine lv_icmp_ge (tgt := 34) hx hb dX9_figureAt_9 (by decide) (fun c_3 => ?_) (fun c_3 => ?_)
    · have hF := (if_pos c_3).symm.trans hF
      have c_3 : y2.toInt ≤ vi.toInt := il_le c_3
      refine lv_bipush (v := (-9)) hx hb dX9_figureAt_34 (by decide) ?_
      exact W.iret (v := (-9)) hx hb hr (fun t ht hW => ⟨⟨(-9), (), rfl, ⟨hF.trans hfz.symm, (by have h6 : ((-9) : Int32).toInt = -9 := rfl; omega)⟩, ht⟩, hS.F ht⟩) hS.2.2 dX9_figureAt_36
    · have hF := (if_neg c_3).symm.trans hF
      have c_3 : vi.toInt < y2.toInt := il_nle c_3
      refine lv_aload_n hx hb dX9_figureAt_12 rfl (lv_at hl 0 rfl) ?_
      have hk4 : 27 ≤ kk + 13 ∧ kk + 13 < 31 := add_in 13 h1kk h2kk
      refine va_get (D := (dC, dI)) (ci := 9) (v := .ref (ad (kk + 13))) (C := RX9) (T := TX9) (N := 2) hx hb hts inG9 hown hK hP kk (gX_text cs ad mu kk h1kk h2kk) rfl 0 (by decide) (hts _ (List.mem_cons_of_mem _ mw_2_145)) (fun _ h9 => h9) rfl dX9_figureAt_13 ?_
      refine lv_iload_n hx hb dX9_figureAt_16 rfl (lv_at hl 1 rfl) ?_
      refine va_bald hx hb hK hP (kk + 13) 1 (gX_bytes cs ad mu (kk + 13) hk4.1 hk4.2) rfl (show vp_in vi 80 from vi_of (by omega) (by omega)) dX9_figureAt_17 ?_
      refine lv_topi (fun y5 ey5 => ?_)
      have hF := mi_let hF ey5
      have by5 : y5.toInt = (mu (kk + 13) vi.toNatClampNeg).toInt := congrArg Int32.toInt ey5
      have gy5 : -128 ≤ y5.toInt ∧ y5.toInt ≤ 127 := by rw [ey5]; exact rX_bytes_s ok (kk + 13) hk4.1 hk4.2 vi.toNatClampNeg
      refine lv_bipush (v := 48) hx hb dX9_figureAt_18 (by decide) ?_
      refine lv_icmp_lt (tgt := 34) hx hb dX9_figureAt_20 (by decide) (fun c_6 => ?_) (fun c_6 => ?_)
      · have hF := (if_pos c_6).symm.trans hF
        have c_6 : y5.toInt < 48 := il_lt c_6
        refine lv_bipush (v := (-9)) hx hb dX9_figureAt_34 (by decide) ?_
        exact W.iret (v := (-9)) hx hb hr (fun t ht hW => ⟨⟨(-9), (), rfl, ⟨hF.trans hfz.symm, (by have h6 : ((-9) : Int32).toInt = -9 := rfl; omega)⟩, ht⟩, hS.F ht⟩) hS.2.2 dX9_figureAt_36
      · have hF := (if_neg c_6).symm.trans hF
        have c_6 : 48 ≤ y5.toInt := il_nlt c_6
        refine lv_aload_n hx hb dX9_figureAt_23 rfl (lv_at hl 0 rfl) ?_
        have hk7 : 27 ≤ kk + 13 ∧ kk + 13 < 31 := add_in 13 h1kk h2kk
        refine va_get (D := (dC, dI)) (ci := 9) (v := .ref (ad (kk + 13))) (C := RX9) (T := TX9) (N := 2) hx hb hts inG9 hown hK hP kk (gX_text cs ad mu kk h1kk h2kk) rfl 0 (by decide) (hts _ (List.mem_cons_of_mem _ mw_2_145)) (fun _ h9 => h9) rfl dX9_figureAt_24 ?_
        refine lv_iload_n hx hb dX9_figureAt_27 rfl (lv_at hl 1 rfl) ?_
        refine va_bald hx hb hK hP (kk + 13) 1 (gX_bytes cs ad mu (kk + 13) hk7.1 hk7.2) rfl (show vp_in vi 80 from vi_of (by omega) (by omega)) dX9_figureAt_28 ?_
        refine lq_i y5 ey5.symm ?_
        refine lv_bipush (v := 57) hx hb dX9_figureAt_29 (by decide) ?_
        refine lv_icmp_le (tgt := 37) hx hb dX9_figureAt_31 (by decide) (fun c_8 => ?_) (fun c_8 => ?_)
        · have hF := (if_pos c_8).symm.trans hF
          have c_8 : y5.toInt ≤ 57 := il_le c_8
          refine lv_aload_n hx hb dX9_figureAt_37 rfl (lv_at hl 0 rfl) ?_
          have hk9 : 27 ≤ kk + 13 ∧ kk + 13 < 31 := add_in 13 h1kk h2kk
          refine va_get (D := (dC, dI)) (ci := 9) (v := .ref (ad (kk + 13))) (C := RX9) (T := TX9) (N := 2) hx hb hts inG9 hown hK hP kk (gX_text cs ad mu kk h1kk h2kk) rfl 0 (by decide) (hts _ (List.mem_cons_of_mem _ mw_2_145)) (fun _ h9 => h9) rfl dX9_figureAt_38 ?_
          refine lv_iload_n hx hb dX9_figureAt_41 rfl (lv_at hl 1 rfl) ?_
          refine va_bald hx hb hK hP (kk + 13) 1 (gX_bytes cs ad mu (kk + 13) hk9.1 hk9.2) rfl (show vp_in vi 80 from vi_of (by omega) (by omega)) dX9_figureAt_42 ?_
          refine lq_i y5 ey5.symm ?_
          refine lv_bipush (v := 48) hx hb dX9_figureAt_43 (by decide) ?_
          refine lv_isub hx hb dX9_figureAt_45 ?_
          refine lv_topi (fun t10 et10 => ?_)
          have hF := mi_let hF et10
          have at10 : t10.toInt = y5.toInt - 48 := by rw [et10]; exact tI_sub (rfl : y5.toInt = _) (rfl : (48 : Int32).toInt = 48) (by omega) (by omega)
          exact W.iret (v := t10) hx hb hr (fun t ht hW => ⟨⟨t10, (), rfl, ⟨hF.trans hfz.symm, (by omega)⟩, ht⟩, hS.F ht⟩) hS.2.2 dX9_figureAt_46
        · have hF := (if_neg c_8).symm.trans hF
          have c_8 : 57 < y5.toInt := il_nle c_8
          refine lv_bipush (v := (-9)) hx hb dX9_figureAt_34 (by decide) ?_
          exact W.iret (v := (-9)) hx hb hr (fun t ht hW => ⟨⟨(-9), (), rfl, ⟨hF.trans hfz.symm, (by have h6 : ((-9) : Int32).toInt = -9 := rfl; omega)⟩, ht⟩, hS.F ht⟩) hS.2.2 dX9_figureAt_36
set_option maxHeartbeats 4000000 in
set_option maxRecDepth 100000 in
/-- qx_row -/
theorem qx_row (l : Launch) (dC : Nat → ClassId) (dI : Nat → Nat → Nat) (cs : Nat → ClassId) (ad : Nat → Nat) (mu : Nat → Nat → Int32) (ok : okR loX hiX mu) (H : Heap) (hP : va_P (dC, dI) vwCl (wR 157 ad (EX cs ad) mu) H) (hD0 : va_D (fun _ => True) (wR 157 ad (EX cs ad) mu)) (vr : Int32) (vn : Int32) : Met l yX11_row (wU yX11_row cX11_row 3 (some .int)) ({ frames := 2, cells := 0, slots := 0, locals := 44 }) (va_Pc [.ref (ad 0), .int vr, .int vn] (sz_P (dC, dI) vwCl (tyW cs) H)) (va_Qi (fun (z : Int32) (xi : Nat → Nat → Int32) => okR loX hiX xi ∧ (((vr.toInt < 0 ∨ 5 < vr.toInt ∨ 40 < vn.toInt) ∧ z.toInt = -1) ∨ (0 ≤ vr.toInt ∧ vr.toInt ≤ 5 ∧ vn.toInt < 0 ∧ z.toInt = -3) ∨ (0 ≤ vr.toInt ∧ vr.toInt ≤ 5 ∧ 0 ≤ vn.toInt ∧ vn.toInt ≤ 40 ∧ z.toInt = vn.toInt)) ∧ (∀ k f : Nat, Nat.testBit 510 (gpX k f) = true → xi k f = mu k f)) (fun xi t => va_P (dC, dI) vwCl (wR 157 ad (EX cs ad) xi) t.heap) (va_A (wR 157 ad (EX cs ad) mu) H.size)) 0 0 (va_A (wR 157 ad (EX cs ad) mu) H.size) := by
  refine Met.ofW (cc := cX11_row) (maxL := 3) (ret := (some .int)) (by decide) rfl ?_
  intro p e s m args below meth c s₁ B hml hv
  obtain ⟨rfl, hh, hK, hz⟩ := hv
  have hx := B.exec
  have hb := B.bytes
  have hr := B.returns
  have hts := atoms_spec (ws := (wU yX11_row cX11_row 3 (some .int))) B.pre
  have hown : s.vm.findClass RX11 = some m.cls := findClass_of_methodNamed B.named
  have hlocks := B.notSynchronized
  subst hh
  have hD := hD0.self (sz := s.heap.size)
  have hA : ∀ q : Nat, s.heap.size ≤ q → (va_A (wR 157 ad (EX cs ad) mu) s.heap.size) q := fun q h => Or.inr h
  have hS : va_S (va_A (wR 157 ad (EX cs ad) mu) s.heap.size) s.heap s.heap [] := va_S.rf
  have hl := lv_entry ([.ref (ad 0), .int vr, .int vn]) (n := 3) (Nat.le_of_ble_eq_true rfl)
  rw [lg_entry_eq]
  generalize (lg_sl ([.ref (ad 0), .int vr, .int vn]) ++ List.replicate (3 - (lg_sl ([.ref (ad 0), .int vr, .int vn])).length) Slot.unset).toArray = ls at hl ⊢
  have hl : lv_has ls 3 [(0, .ref (ad 0)), (1, .int vr), (2, .int vn)] := hl
  refine lv_iload_n hx hb dX11_row_0 rfl (lv_at hl 1 rfl) ?_
  refine cr_i (va_runS (As := [.int vr]) (rest := []) ⟨hx, hb, hml, hown, hts⟩ (sx_isRow l dC dI (tyW cs) s.heap vr) (va_cwS 1 hts (wU_S mw_2_198 mw_2_196 mw_2_197 mw_1_1) rfl rfl rfl (by decide +kernel) ⟨Nat.le_of_ble_eq_true rfl, Nat.le_of_ble_eq_true rfl⟩) ⟨sz_c, sz_m hK hz⟩ rfl rfl hl.1 rfl (lv_room (Nat.le_of_ble_eq_true rfl)) dX11_row_1 ⟨Nat.zero_le _, Nat.zero_le _⟩) hS (fun r1 hw1 locs hS => ?_)
  obtain ⟨hfe1, hw1⟩ := hw1
  rcases hw1 with ⟨rfl, f1⟩ | ⟨rfl, f1⟩
  · have f1 : 0 ≤ vr.toInt ∧ vr.toInt ≤ 5 := f1
    refine lv_if_eq (tgt := 13) hx hb dX11_row_4 (by decide) (fun c => absurd c (by decide)) (fun _ => ?_)
    refine lv_iload_n hx hb dX11_row_7 rfl (lv_at hl 2 rfl) ?_
    refine lv_bipush (v := 40) hx hb dX11_row_8 (by decide) ?_
    refine lv_icmp_le (tgt := 15) hx hb dX11_row_10 (by decide) (fun c_2 => ?_) (fun c_2 => ?_)
    · have c_2 : vn.toInt ≤ 40 := il_le c_2
      refine lv_iload_n hx hb dX11_row_15 rfl (lv_at hl 2 rfl) ?_
      refine lv_if_ge (tgt := 25) hx hb dX11_row_16 (by decide) (fun c_3 => ?_) (fun c_3 => ?_)
      · have c_3 : 0 ≤ vn.toInt := il_le c_3
        refine lv_aload_n hx hb dX11_row_25 rfl (lv_at hl 0 rfl) ?_
        refine va_get (D := (dC, dI)) (ci := 11) (v := .ref (ad 1)) (C := RX11) (T := TX11) (N := 11) hx hb hts inG11 hown hK hP 0 (gX_0 cs ad mu) rfl 0 (by decide) (hts _ (List.mem_cons_of_mem _ mw_2_158)) (fun _ h9 => h9) rfl dX11_row_26 ?_
        refine lv_iload_n hx hb dX11_row_29 rfl (lv_at hl 1 rfl) ?_
        have hx4 : 0 ≤ vr.toInt ∧ vr.toInt < ((6 : Nat) : Int) := ⟨by omega, by omega⟩
        refine va_aldq hx hb hK hP 1 2 (gX_1 cs ad mu) rfl (show vp_in vr 6 from vi_of hx4.1 hx4.2) dX11_row_30 ?_
        have hk4 : 8 ≤ (8 + vr.toNatClampNeg) ∧ (8 + vr.toNatClampNeg) < 14 := ix_of hx4
        refine lq_v (.ref (ad (8 + vr.toNatClampNeg))) rfl ?_
        refine lv_iload_n hx hb dX11_row_31 rfl (lv_at hl 2 rfl) ?_
        have hFc := fr_all (wR_D mu hD) hS hA
        refine va_callv (va_runV (As := [.int vn]) (rest := []) ⟨hx, hb, hml, hown, hts⟩ (sx_beZeros l dC dI cs ad mu ok s.heap hP ((wR_D mu hD).weaken (fun _ _ _ _ => trivial)) (8 + vr.toNatClampNeg) hk4.1 hk4.2 vn (by omega)) (cwV 1 hts (wU_V mw_2_206 mw_2_203 mw_2_204 mw_2_205 mw_1_11) rfl rfl rfl (by decide +kernel) ⟨Nat.le_of_ble_eq_true rfl, Nat.le_of_ble_eq_true rfl⟩) ⟨sz_c, va_recv hK hP (ci := 6) (q0 := (8 + vr.toNatClampNeg)) rfl (gX_row cs ad mu (8 + vr.toNatClampNeg) hk4.1 hk4.2), sz_m hK hz⟩ rfl rfl hl.1 rfl (lv_room (Nat.le_of_ble_eq_true rfl)) dX11_row_32 ⟨Nat.zero_le _, Nat.zero_le _⟩) hS (fun q _ h => hFc q h) hFc (fun xi5 t H5 locs ht hvm hw5 hB hz1 hk1 hS => ?_)
        have hP : va_P (dC, dI) vwCl (wR 157 ad (EX cs ad) xi5) H5 := by rw [← ht]; exact hB
        obtain ⟨hfe5, ok, hw5, hkp5_0⟩ := hw5
        have kp6 : (∀ k f : Nat, Nat.testBit 510 (gpX k f) = true → xi5 k f = mu k f) := kp_t hkp5_0 (by decide) (fun _ _ _ => rfl)
        refine lv_iload_n hx hb dX11_row_35 rfl (lv_at hl 2 rfl) ?_
        exact W.iret (v := vn) hx hb hr (fun t ht hW => ⟨⟨vn, xi5, rfl, ⟨ok, (by omega), kp6⟩, by first | (subst ht; exact hP) | (rw [ht]; exact hP) | (show va_P (dC, dI) vwCl (wR 157 ad (EX cs ad) xi5) t.heap; rw [ht]; exact hP)⟩, hS.F ht⟩) hS.2.2 dX11_row_36
      · have c_3 : vn.toInt < 0 := il_nle c_3
        refine lv_aload_n hx hb dX11_row_19 rfl (lv_at hl 0 rfl) ?_
        refine lv_iconst (v := 5) hx hb dX11_row_20 (by decide) ?_
        have hFc := fr_all (wR_D mu hD) hS hA
        refine va_calli (va_runV (As := [.int 5]) (rest := []) ⟨hx, hb, hml, hown, hts⟩ (sx_found l dC dI cs ad mu ok s.heap hP ((wR_D mu hD).weaken (fun _ _ _ _ => trivial)) 5 (by have h50 : (5 : Int32).toInt = 5 := rfl; omega)) (cwV 1 hts (wU_V mw_2_202 mw_2_199 mw_2_201 mw_0_0 mw_1_1) rfl rfl rfl (by decide +kernel) ⟨Nat.le_of_ble_eq_true rfl, Nat.le_of_ble_eq_true rfl⟩) ⟨sz_c, va_recv hK hP (ci := 11) (q0 := 0) rfl (gX_0 cs ad mu), sz_m hK hz⟩ rfl rfl hl.1 rfl (lv_room (Nat.le_of_ble_eq_true rfl)) dX11_row_21 ⟨Nat.zero_le _, Nat.zero_le _⟩) hS (fun q _ h => hFc q h) hFc (fun r7 xi7 t H7 locs ht hvm hw7 hB hz1 hk1 hS => ?_)
        have hP : va_P (dC, dI) vwCl (wR 157 ad (EX cs ad) xi7) H7 := by rw [← ht]; exact hB
        obtain ⟨hfe7, ok, hw7, hkp7_0⟩ := hw7
        have kp8 : (∀ k f : Nat, Nat.testBit 510 (gpX k f) = true → xi7 k f = mu k f) := kp_t hkp7_0 (by decide) (fun _ _ _ => rfl)
        have gr7 : -3 ≤ r7.toInt ∧ r7.toInt ≤ -3 := hw7
        exact W.iret (v := r7) hx hb hr (fun t ht hW => ⟨⟨r7, xi7, rfl, ⟨ok, (by omega), kp8⟩, by first | (subst ht; exact hP) | (rw [ht]; exact hP) | (show va_P (dC, dI) vwCl (wR 157 ad (EX cs ad) xi7) t.heap; rw [ht]; exact hP)⟩, hS.F ht⟩) hS.2.2 dX11_row_24
    · have c_2 : 40 < vn.toInt := il_nle c_2
      refine lv_iconst (v := (-1)) hx hb dX11_row_13 (by decide) ?_
      exact W.iret (v := (-1)) hx hb hr (fun t ht hW => ⟨⟨(-1), mu, rfl, ⟨ok, (by have h6 : ((-1) : Int32).toInt = -1 := rfl; omega), (fun _ _ _ => rfl)⟩, by first | (subst ht; exact hP) | (rw [ht]; exact hP) | (show va_P (dC, dI) vwCl (wR 157 ad (EX cs ad) mu) t.heap; rw [ht]; exact hP)⟩, hS.F ht⟩) hS.2.2 dX11_row_14
  · have f1 : vr.toInt < 0 ∨ 5 < vr.toInt := f1
    refine lv_if_eq (tgt := 13) hx hb dX11_row_4 (by decide) (fun _ => ?_) (fun c => absurd (by decide) c)
    refine lv_iconst (v := (-1)) hx hb dX11_row_13 (by decide) ?_
    exact W.iret (v := (-1)) hx hb hr (fun t ht hW => ⟨⟨(-1), mu, rfl, ⟨ok, (by have h6 : ((-1) : Int32).toInt = -1 := rfl; omega), (fun _ _ _ => rfl)⟩, by first | (subst ht; exact hP) | (rw [ht]; exact hP) | (show va_P (dC, dI) vwCl (wR 157 ad (EX cs ad) mu) t.heap; rw [ht]; exact hP)⟩, hS.F ht⟩) hS.2.2 dX11_row_14
set_option maxHeartbeats 4000000 in
set_option maxRecDepth 100000 in
/-- qx_text -/
theorem qx_text (l : Launch) (dC : Nat → ClassId) (dI : Nat → Nat → Nat) (cs : Nat → ClassId) (ad : Nat → Nat) (mu : Nat → Nat → Int32) (ok : okR loX hiX mu) (H : Heap) (hP : va_P (dC, dI) vwCl (wR 157 ad (EX cs ad) mu) H) (hD0 : va_D (fun _ => True) (wR 157 ad (EX cs ad) mu)) (vt : Int32) (vn : Int32) : Met l yX11_text (wU yX11_text cX11_text 3 (some .int)) ({ frames := 2, cells := 0, slots := 0, locals := 44 }) (va_Pc [.ref (ad 0), .int vt, .int vn] (sz_P (dC, dI) vwCl (tyW cs) H)) (va_Qi (fun (z : Int32) (xi : Nat → Nat → Int32) => (z, xi) = F_qx_text mu vt vn ∧ okR loX hiX xi ∧ (((vt.toInt < 0 ∨ 3 < vt.toInt ∨ 80 < vn.toInt) ∧ z.toInt = -1) ∨ (0 ≤ vt.toInt ∧ vt.toInt ≤ 3 ∧ vn.toInt < 0 ∧ z.toInt = -3) ∨ (0 ≤ vt.toInt ∧ vt.toInt ≤ 3 ∧ 0 ≤ vn.toInt ∧ vn.toInt ≤ 80 ∧ z.toInt = vn.toInt)) ∧ (∀ k f : Nat, Nat.testBit 508 (gpX k f) = true → xi k f = mu k f)) (fun xi t => va_P (dC, dI) vwCl (wR 157 ad (EX cs ad) xi) t.heap) (va_A (wR 157 ad (EX cs ad) mu) H.size)) 0 0 (va_A (wR 157 ad (EX cs ad) mu) H.size) := by
  refine Met.ofW (cc := cX11_text) (maxL := 3) (ret := (some .int)) (by decide) rfl ?_
  intro p e s m args below meth c s₁ B hml hv
  obtain ⟨rfl, hh, hK, hz⟩ := hv
  have hx := B.exec
  have hb := B.bytes
  have hr := B.returns
  have hts := atoms_spec (ws := (wU yX11_text cX11_text 3 (some .int))) B.pre
  have hown : s.vm.findClass RX11 = some m.cls := findClass_of_methodNamed B.named
  have hlocks := B.notSynchronized
  subst hh
  have hD := hD0.self (sz := s.heap.size)
  have hA : ∀ q : Nat, s.heap.size ≤ q → (va_A (wR 157 ad (EX cs ad) mu) s.heap.size) q := fun q h => Or.inr h
  have hS : va_S (va_A (wR 157 ad (EX cs ad) mu) s.heap.size) s.heap s.heap [] := va_S.rf
  have hl := lv_entry ([.ref (ad 0), .int vt, .int vn]) (n := 3) (Nat.le_of_ble_eq_true rfl)
  rw [lg_entry_eq]
  generalize (lg_sl ([.ref (ad 0), .int vt, .int vn]) ++ List.replicate (3 - (lg_sl ([.ref (ad 0), .int vt, .int vn])).length) Slot.unset).toArray = ls at hl ⊢
  have hl : lv_has ls 3 [(0, .ref (ad 0)), (1, .int vt), (2, .int vn)] := hl
  obtain ⟨fz, hfz⟩ : ∃ z, F_qx_text mu vt vn = z := ⟨_, rfl⟩
  have hF := hfz
  unfold F_qx_text at hF
  refine lv_iload_n hx hb dX11_text_0 rfl (lv_at hl 1 rfl) ?_
  refine cr_i (va_runS (As := [.int vt]) (rest := []) ⟨hx, hb, hml, hown, hts⟩ (sx_isText l dC dI (tyW cs) s.heap vt) (va_cwS 1 hts (wU_S mw_3_15 mw_3_13 mw_3_14 mw_1_1) rfl rfl rfl (by decide +kernel) ⟨Nat.le_of_ble_eq_true rfl, Nat.le_of_ble_eq_true rfl⟩) ⟨sz_c, sz_m hK hz⟩ rfl rfl hl.1 rfl (lv_room (Nat.le_of_ble_eq_true rfl)) dX11_text_1 ⟨Nat.zero_le _, Nat.zero_le _⟩) hS (fun r1 hw1 locs hS => ?_)
  obtain ⟨hfe1, hw1⟩ := hw1
  rcases hw1 with ⟨rfl, f1⟩ | ⟨rfl, f1⟩
  · have hF := (if_pos hfe1.symm).symm.trans hF
    have f1 : 0 ≤ vt.toInt ∧ vt.toInt ≤ 3 := f1
    refine lv_if_eq (tgt := 13) hx hb dX11_text_4 (by decide) (fun c => absurd c (by decide)) (fun _ => ?_)
    refine lv_iload_n hx hb dX11_text_7 rfl (lv_at hl 2 rfl) ?_
    refine lv_bipush (v := 80) hx hb dX11_text_8 (by decide) ?_
    refine lv_icmp_le (tgt := 15) hx hb dX11_text_10 (by decide) (fun c_2 => ?_) (fun c_2 => ?_)
    · have hF := (if_pos c_2).symm.trans hF
      have c_2 : vn.toInt ≤ 80 := il_le c_2
      refine lv_iload_n hx hb dX11_text_15 rfl (lv_at hl 2 rfl) ?_
      refine lv_if_ge (tgt := 25) hx hb dX11_text_16 (by decide) (fun c_3 => ?_) (fun c_3 => ?_)
      · have hF := (if_pos c_3).symm.trans hF
        have c_3 : 0 ≤ vn.toInt := il_le c_3
        refine lv_aload_n hx hb dX11_text_25 rfl (lv_at hl 0 rfl) ?_
        refine va_get (D := (dC, dI)) (ci := 11) (v := .ref (ad 2)) (C := RX11) (T := TX11) (N := 11) hx hb hts inG11 hown hK hP 0 (gX_0 cs ad mu) rfl 1 (by decide) (hts _ (List.mem_cons_of_mem _ mw_2_159)) (fun _ h9 => h9) rfl dX11_text_26 ?_
        refine lv_iload_n hx hb dX11_text_29 rfl (lv_at hl 1 rfl) ?_
        have hx4 : 0 ≤ vt.toInt ∧ vt.toInt < ((4 : Nat) : Int) := ⟨by omega, by omega⟩
        refine va_aldq hx hb hK hP 2 3 (gX_2 cs ad mu) rfl (show vp_in vt 4 from vi_of hx4.1 hx4.2) dX11_text_30 ?_
        have hk4 : 14 ≤ (14 + vt.toNatClampNeg) ∧ (14 + vt.toNatClampNeg) < 18 := ix_of hx4
        refine lq_v (.ref (ad (14 + vt.toNatClampNeg))) rfl ?_
        refine lv_iload_n hx hb dX11_text_31 rfl (lv_at hl 2 rfl) ?_
        have hFc := fr_all (wR_D mu hD) hS hA
        refine va_callv (va_runV (As := [.int vn]) (rest := []) ⟨hx, hb, hml, hown, hts⟩ (sx_beBlanks l dC dI cs ad mu ok s.heap hP ((wR_D mu hD).weaken (fun _ _ _ _ => trivial)) (14 + vt.toNatClampNeg) hk4.1 hk4.2 vn (by omega)) (cwV 1 hts (wU_V mw_3_19 mw_3_16 mw_3_17 mw_3_18 mw_1_12) rfl rfl rfl (by decide +kernel) ⟨Nat.le_of_ble_eq_true rfl, Nat.le_of_ble_eq_true rfl⟩) ⟨sz_c, va_recv hK hP (ci := 9) (q0 := (14 + vt.toNatClampNeg)) rfl (gX_text cs ad mu (14 + vt.toNatClampNeg) hk4.1 hk4.2), sz_m hK hz⟩ rfl rfl hl.1 rfl (lv_room (Nat.le_of_ble_eq_true rfl)) dX11_text_32 ⟨Nat.zero_le _, Nat.zero_le _⟩) hS (fun q _ h => hFc q h) hFc (fun xi5 t H5 locs ht hvm hw5 hB hz1 hk1 hS => ?_)
        have hP : va_P (dC, dI) vwCl (wR 157 ad (EX cs ad) xi5) H5 := by rw [← ht]; exact hB
        obtain ⟨hfe5, ok, hw5, hkp5_0⟩ := hw5
        have hF := mi_let hF hfe5
        have kp6 : (∀ k f : Nat, Nat.testBit 508 (gpX k f) = true → xi5 k f = mu k f) := kp_t hkp5_0 (by decide) (fun _ _ _ => rfl)
        refine lv_iload_n hx hb dX11_text_35 rfl (lv_at hl 2 rfl) ?_
        exact W.iret (v := vn) hx hb hr (fun t ht hW => ⟨⟨vn, xi5, rfl, ⟨hF.trans hfz.symm, ok, (by omega), kp6⟩, by first | (subst ht; exact hP) | (rw [ht]; exact hP) | (show va_P (dC, dI) vwCl (wR 157 ad (EX cs ad) xi5) t.heap; rw [ht]; exact hP)⟩, hS.F ht⟩) hS.2.2 dX11_text_36
      · have hF := (if_neg c_3).symm.trans hF
        have c_3 : vn.toInt < 0 := il_nle c_3
        refine lv_aload_n hx hb dX11_text_19 rfl (lv_at hl 0 rfl) ?_
        refine lv_iconst (v := 5) hx hb dX11_text_20 (by decide) ?_
        have hFc := fr_all (wR_D mu hD) hS hA
        refine va_calli (va_runV (As := [.int 5]) (rest := []) ⟨hx, hb, hml, hown, hts⟩ (sx_found l dC dI cs ad mu ok s.heap hP ((wR_D mu hD).weaken (fun _ _ _ _ => trivial)) 5 (by have h50 : (5 : Int32).toInt = 5 := rfl; omega)) (cwV 1 hts (wU_V mw_2_202 mw_2_199 mw_2_201 mw_0_0 mw_1_1) rfl rfl rfl (by decide +kernel) ⟨Nat.le_of_ble_eq_true rfl, Nat.le_of_ble_eq_true rfl⟩) ⟨sz_c, va_recv hK hP (ci := 11) (q0 := 0) rfl (gX_0 cs ad mu), sz_m hK hz⟩ rfl rfl hl.1 rfl (lv_room (Nat.le_of_ble_eq_true rfl)) dX11_text_21 ⟨Nat.zero_le _, Nat.zero_le _⟩) hS (fun q _ h => hFc q h) hFc (fun r7 xi7 t H7 locs ht hvm hw7 hB hz1 hk1 hS => ?_)
        have hP : va_P (dC, dI) vwCl (wR 157 ad (EX cs ad) xi7) H7 := by rw [← ht]; exact hB
        obtain ⟨hfe7, ok, hw7, hkp7_0⟩ := hw7
        have hF := mi_letp hF hfe7
        have kp8 : (∀ k f : Nat, Nat.testBit 508 (gpX k f) = true → xi7 k f = mu k f) := kp_t hkp7_0 (by decide) (fun _ _ _ => rfl)
        have gr7 : -3 ≤ r7.toInt ∧ r7.toInt ≤ -3 := hw7
        exact W.iret (v := r7) hx hb hr (fun t ht hW => ⟨⟨r7, xi7, rfl, ⟨hF.trans hfz.symm, ok, (by omega), kp8⟩, by first | (subst ht; exact hP) | (rw [ht]; exact hP) | (show va_P (dC, dI) vwCl (wR 157 ad (EX cs ad) xi7) t.heap; rw [ht]; exact hP)⟩, hS.F ht⟩) hS.2.2 dX11_text_24
    · have hF := (if_neg c_2).symm.trans hF
      have c_2 : 80 < vn.toInt := il_nle c_2
      refine lv_iconst (v := (-1)) hx hb dX11_text_13 (by decide) ?_
      exact W.iret (v := (-1)) hx hb hr (fun t ht hW => ⟨⟨(-1), mu, rfl, ⟨hF.trans hfz.symm, ok, (by have h6 : ((-1) : Int32).toInt = -1 := rfl; omega), (fun _ _ _ => rfl)⟩, by first | (subst ht; exact hP) | (rw [ht]; exact hP) | (show va_P (dC, dI) vwCl (wR 157 ad (EX cs ad) mu) t.heap; rw [ht]; exact hP)⟩, hS.F ht⟩) hS.2.2 dX11_text_14
  · have hF := (if_neg (fun h => absurd (hfe1.trans h) (by decide))).symm.trans hF
    have f1 : vt.toInt < 0 ∨ 3 < vt.toInt := f1
    refine lv_if_eq (tgt := 13) hx hb dX11_text_4 (by decide) (fun _ => ?_) (fun c => absurd (by decide) c)
    refine lv_iconst (v := (-1)) hx hb dX11_text_13 (by decide) ?_
    exact W.iret (v := (-1)) hx hb hr (fun t ht hW => ⟨⟨(-1), mu, rfl, ⟨hF.trans hfz.symm, ok, (by have h6 : ((-1) : Int32).toInt = -1 := rfl; omega), (fun _ _ _ => rfl)⟩, by first | (subst ht; exact hP) | (rw [ht]; exact hP) | (show va_P (dC, dI) vwCl (wR 157 ad (EX cs ad) mu) t.heap; rw [ht]; exact hP)⟩, hS.F ht⟩) hS.2.2 dX11_text_14
set_option maxHeartbeats 4000000 in
set_option maxRecDepth 100000 in
/-- qx_copy -/
theorem qx_copy (l : Launch) (dC : Nat → ClassId) (dI : Nat → Nat → Nat) (cs : Nat → ClassId) (ad : Nat → Nat) (mu : Nat → Nat → Int32) (ok : okR loX hiX mu) (H : Heap) (hP : va_P (dC, dI) vwCl (wR 157 ad (EX cs ad) mu) H) (hD0 : va_D (fun _ => True) (wR 157 ad (EX cs ad) mu)) (vr : Int32) (vi : Int32) (vt : Int32) (vj : Int32) (vn : Int32) : Met l yX11_copy (wU yX11_copy cX11_copy 6 (some .int)) ({ frames := 1, cells := 0, slots := 0, locals := 60 }) (va_Pc [.ref (ad 0), .int vr, .int vi, .int vt, .int vj, .int vn] (sz_P (dC, dI) vwCl (tyW cs) H)) (va_Qi (fun (z : Int32) (xi : Nat → Nat → Int32) => okR loX hiX xi ∧ (True) ∧ (∀ k f : Nat, Nat.testBit 510 (gpX k f) = true → xi k f = mu k f)) (fun xi t => va_P (dC, dI) vwCl (wR 157 ad (EX cs ad) xi) t.heap) (va_A (wR 157 ad (EX cs ad) mu) H.size)) 0 0 (va_A (wR 157 ad (EX cs ad) mu) H.size) := by
  refine Met.ofW (cc := cX11_copy) (maxL := 6) (ret := (some .int)) (by decide) rfl ?_
  intro p e s m args below meth c s₁ B hml hv
  obtain ⟨rfl, hh, hK, hz⟩ := hv
  have hx := B.exec
  have hb := B.bytes
  have hr := B.returns
  have hts := atoms_spec (ws := (wU yX11_copy cX11_copy 6 (some .int))) B.pre
  have hown : s.vm.findClass RX11 = some m.cls := findClass_of_methodNamed B.named
  have hlocks := B.notSynchronized
  subst hh
  have hD := hD0.self (sz := s.heap.size)
  have hA : ∀ q : Nat, s.heap.size ≤ q → (va_A (wR 157 ad (EX cs ad) mu) s.heap.size) q := fun q h => Or.inr h
  have hS : va_S (va_A (wR 157 ad (EX cs ad) mu) s.heap.size) s.heap s.heap [] := va_S.rf
  have hl := lv_entry ([.ref (ad 0), .int vr, .int vi, .int vt, .int vj, .int vn]) (n := 6) (Nat.le_of_ble_eq_true rfl)
  rw [lg_entry_eq]
  generalize (lg_sl ([.ref (ad 0), .int vr, .int vi, .int vt, .int vj, .int vn]) ++ List.replicate (6 - (lg_sl ([.ref (ad 0), .int vr, .int vi, .int vt, .int vj, .int vn])).length) Slot.unset).toArray = ls at hl ⊢
  have hl : lv_has ls 6 [(0, .ref (ad 0)), (1, .int vr), (2, .int vi), (3, .int vt), (4, .int vj), (5, .int vn)] := hl
  refine lv_iload_n hx hb dX11_copy_0 rfl (lv_at hl 1 rfl) ?_
  refine cr_i (va_runS (As := [.int vr]) (rest := []) ⟨hx, hb, hml, hown, hts⟩ (sx_isRow l dC dI (tyW cs) s.heap vr) (va_cwS 1 hts (wU_S mw_2_198 mw_2_196 mw_2_197 mw_1_1) rfl rfl rfl (by decide +kernel) ⟨Nat.le_of_ble_eq_true rfl, Nat.le_of_ble_eq_true rfl⟩) ⟨sz_c, sz_m hK hz⟩ rfl rfl hl.1 rfl (lv_room (Nat.le_of_ble_eq_true rfl)) dX11_copy_1 ⟨Nat.zero_le _, Nat.zero_le _⟩) hS (fun r1 hw1 locs hS => ?_)
  obtain ⟨hfe1, hw1⟩ := hw1
  rcases hw1 with ⟨rfl, f1⟩ | ⟨rfl, f1⟩
  · have f1 : 0 ≤ vr.toInt ∧ vr.toInt ≤ 5 := f1
    refine lv_if_eq (tgt := 14) hx hb dX11_copy_4 (by decide) (fun c => absurd c (by decide)) (fun _ => ?_)
    refine lv_iload_n hx hb dX11_copy_7 rfl (lv_at hl 3 rfl) ?_
    refine cr_i (va_runS (As := [.int vt]) (rest := []) ⟨hx, hb, hml, hown, hts⟩ (sx_isRow l dC dI (tyW cs) s.heap vt) (va_cwS 1 hts (wU_S mw_2_198 mw_2_196 mw_2_197 mw_1_1) rfl rfl rfl (by decide +kernel) ⟨Nat.le_of_ble_eq_true rfl, Nat.le_of_ble_eq_true rfl⟩) ⟨sz_c, sz_m hK hz⟩ rfl rfl hl.1 rfl (lv_room (Nat.le_of_ble_eq_true rfl)) dX11_copy_8 ⟨Nat.zero_le _, Nat.zero_le _⟩) hS (fun r2 hw2 locs hS => ?_)
    obtain ⟨hfe2, hw2⟩ := hw2
    rcases hw2 with ⟨rfl, f2⟩ | ⟨rfl, f2⟩
    · have f2 : 0 ≤ vt.toInt ∧ vt.toInt ≤ 5 := f2
      refine lv_if_ne (tgt := 16) hx hb dX11_copy_11 (by decide) (fun _ => ?_) (fun c => absurd c (by decide))
      refine lv_iload hx hb dX11_copy_16 (lv_at hl 5 rfl) ?_
      refine lv_if_ge (tgt := 27) hx hb dX11_copy_18 (by decide) (fun c_3 => ?_) (fun c_3 => ?_)
      · have c_3 : 0 ≤ vn.toInt := il_le c_3
        refine lv_aload_n hx hb dX11_copy_27 rfl (lv_at hl 0 rfl) ?_
        refine va_get (D := (dC, dI)) (ci := 11) (v := .ref (ad 1)) (C := RX11) (T := TX11) (N := 11) hx hb hts inG11 hown hK hP 0 (gX_0 cs ad mu) rfl 0 (by decide) (hts _ (List.mem_cons_of_mem _ mw_2_158)) (fun _ h9 => h9) rfl dX11_copy_28 ?_
        refine lv_iload_n hx hb dX11_copy_31 rfl (lv_at hl 1 rfl) ?_
        have hx4 : 0 ≤ vr.toInt ∧ vr.toInt < ((6 : Nat) : Int) := ⟨by omega, by omega⟩
        refine va_aldq hx hb hK hP 1 2 (gX_1 cs ad mu) rfl (show vp_in vr 6 from vi_of hx4.1 hx4.2) dX11_copy_32 ?_
        have hk4 : 8 ≤ (8 + vr.toNatClampNeg) ∧ (8 + vr.toNatClampNeg) < 14 := ix_of hx4
        refine lq_v (.ref (ad (8 + vr.toNatClampNeg))) rfl ?_
        refine cr_i (va_runV (As := []) (rest := []) ⟨hx, hb, hml, hown, hts⟩ (sx_Row_isMissing l dC dI cs ad mu ok s.heap hP (8 + vr.toNatClampNeg) hk4.1 hk4.2) (cwV 0 hts (wU_V mw_2_225 mw_2_222 mw_2_223 mw_2_224 mw_1_11) rfl rfl rfl (by decide +kernel) ⟨Nat.le_of_ble_eq_true rfl, Nat.le_of_ble_eq_true rfl⟩) ⟨sz_c, va_recv hK hP (ci := 6) (q0 := (8 + vr.toNatClampNeg)) rfl (gX_row cs ad mu (8 + vr.toNatClampNeg) hk4.1 hk4.2), sz_m hK hz⟩ rfl rfl hl.1 rfl (lv_room (Nat.le_of_ble_eq_true rfl)) dX11_copy_33 ⟨Nat.zero_le _, Nat.zero_le _⟩) hS (fun r5 hw5 locs hS => ?_)
        obtain ⟨hfe5, hw5⟩ := hw5
        rcases hw5 with ⟨rfl, f5⟩ | ⟨rfl, f5⟩
        · have f5 : (mu (8 + vr.toNatClampNeg) 1).toInt < 0 := f5
          refine lv_if_ne (tgt := 51) hx hb dX11_copy_36 (by decide) (fun _ => ?_) (fun c => absurd c (by decide))
          refine lv_aload_n hx hb dX11_copy_51 rfl (lv_at hl 0 rfl) ?_
          refine lv_iconst (v := 1) hx hb dX11_copy_52 (by decide) ?_
          have hFc := fr_all (wR_D mu hD) hS hA
          refine va_calli (va_runV (As := [.int 1]) (rest := []) ⟨hx, hb, hml, hown, hts⟩ (sx_found l dC dI cs ad mu ok s.heap hP ((wR_D mu hD).weaken (fun _ _ _ _ => trivial)) 1 (by have h50 : (1 : Int32).toInt = 1 := rfl; omega)) (cwV 1 hts (wU_V mw_2_202 mw_2_199 mw_2_201 mw_0_0 mw_1_1) rfl rfl rfl (by decide +kernel) ⟨Nat.le_of_ble_eq_true rfl, Nat.le_of_ble_eq_true rfl⟩) ⟨sz_c, va_recv hK hP (ci := 11) (q0 := 0) rfl (gX_0 cs ad mu), sz_m hK hz⟩ rfl rfl hl.1 rfl (lv_room (Nat.le_of_ble_eq_true rfl)) dX11_copy_53 ⟨Nat.zero_le _, Nat.zero_le _⟩) hS (fun q _ h => hFc q h) hFc (fun r6 xi6 t H6 locs ht hvm hw6 hB hz1 hk1 hS => ?_)
          have hP : va_P (dC, dI) vwCl (wR 157 ad (EX cs ad) xi6) H6 := by rw [← ht]; exact hB
          obtain ⟨hfe6, ok, hw6, hkp6_0⟩ := hw6
          have kp7 : (∀ k f : Nat, Nat.testBit 510 (gpX k f) = true → xi6 k f = mu k f) := kp_t hkp6_0 (by decide) (fun _ _ _ => rfl)
          have gr6 : -3 ≤ r6.toInt ∧ r6.toInt ≤ -3 := hw6
          exact W.iret (v := r6) hx hb hr (fun t ht hW => ⟨⟨r6, xi6, rfl, ⟨ok, trivial, kp7⟩, by first | (subst ht; exact hP) | (rw [ht]; exact hP) | (show va_P (dC, dI) vwCl (wR 157 ad (EX cs ad) xi6) t.heap; rw [ht]; exact hP)⟩, hS.F ht⟩) hS.2.2 dX11_copy_56
        · have f5 : 0 ≤ (mu (8 + vr.toNatClampNeg) 1).toInt := f5
          refine lv_if_ne (tgt := 51) hx hb dX11_copy_36 (by decide) (fun c => absurd (by decide) c) (fun _ => ?_)
          refine lv_aload_n hx hb dX11_copy_39 rfl (lv_at hl 0 rfl) ?_
          refine va_get (D := (dC, dI)) (ci := 11) (v := .ref (ad 1)) (C := RX11) (T := TX11) (N := 11) hx hb hts inG11 hown hK hP 0 (gX_0 cs ad mu) rfl 0 (by decide) (hts _ (List.mem_cons_of_mem _ mw_2_158)) (fun _ h9 => h9) rfl dX11_copy_40 ?_
          refine lv_iload_n hx hb dX11_copy_43 rfl (lv_at hl 3 rfl) ?_
          have hx8 : 0 ≤ vt.toInt ∧ vt.toInt < ((6 : Nat) : Int) := ⟨by omega, by omega⟩
          refine va_aldq hx hb hK hP 1 2 (gX_1 cs ad mu) rfl (show vp_in vt 6 from vi_of hx8.1 hx8.2) dX11_copy_44 ?_
          have hk8 : 8 ≤ (8 + vt.toNatClampNeg) ∧ (8 + vt.toNatClampNeg) < 14 := ix_of hx8
          refine lq_v (.ref (ad (8 + vt.toNatClampNeg))) rfl ?_
          refine cr_i (va_runV (As := []) (rest := []) ⟨hx, hb, hml, hown, hts⟩ (sx_Row_isMissing l dC dI cs ad mu ok s.heap hP (8 + vt.toNatClampNeg) hk8.1 hk8.2) (cwV 0 hts (wU_V mw_2_225 mw_2_222 mw_2_223 mw_2_224 mw_1_11) rfl rfl rfl (by decide +kernel) ⟨Nat.le_of_ble_eq_true rfl, Nat.le_of_ble_eq_true rfl⟩) ⟨sz_c, va_recv hK hP (ci := 6) (q0 := (8 + vt.toNatClampNeg)) rfl (gX_row cs ad mu (8 + vt.toNatClampNeg) hk8.1 hk8.2), sz_m hK hz⟩ rfl rfl hl.1 rfl (lv_room (Nat.le_of_ble_eq_true rfl)) dX11_copy_45 ⟨Nat.zero_le _, Nat.zero_le _⟩) hS (fun r9 hw9 locs hS => ?_)
          obtain ⟨hfe9, hw9⟩ := hw9
          rcases hw9 with ⟨rfl, f9⟩ | ⟨rfl, f9⟩
          · have f9 : (mu (8 + vt.toNatClampNeg) 1).toInt < 0 := f9
            refine lv_if_eq (tgt := 57) hx hb dX11_copy_48 (by decide) (fun c => absurd c (by decide)) (fun _ => ?_)
            refine lv_aload_n hx hb dX11_copy_51 rfl (lv_at hl 0 rfl) ?_
            refine lv_iconst (v := 1) hx hb dX11_copy_52 (by decide) ?_
            have hFc := fr_all (wR_D mu hD) hS hA
            refine va_calli (va_runV (As := [.int 1]) (rest := []) ⟨hx, hb, hml, hown, hts⟩ (sx_found l dC dI cs ad mu ok s.heap hP ((wR_D mu hD).weaken (fun _ _ _ _ => trivial)) 1 (by have h50 : (1 : Int32).toInt = 1 := rfl; omega)) (cwV 1 hts (wU_V mw_2_202 mw_2_199 mw_2_201 mw_0_0 mw_1_1) rfl rfl rfl (by decide +kernel) ⟨Nat.le_of_ble_eq_true rfl, Nat.le_of_ble_eq_true rfl⟩) ⟨sz_c, va_recv hK hP (ci := 11) (q0 := 0) rfl (gX_0 cs ad mu), sz_m hK hz⟩ rfl rfl hl.1 rfl (lv_room (Nat.le_of_ble_eq_true rfl)) dX11_copy_53 ⟨Nat.zero_le _, Nat.zero_le _⟩) hS (fun q _ h => hFc q h) hFc (fun r10 xi10 t H10 locs ht hvm hw10 hB hz1 hk1 hS => ?_)
            have hP : va_P (dC, dI) vwCl (wR 157 ad (EX cs ad) xi10) H10 := by rw [← ht]; exact hB
            obtain ⟨hfe10, ok, hw10, hkp10_0⟩ := hw10
            have kp11 : (∀ k f : Nat, Nat.testBit 510 (gpX k f) = true → xi10 k f = mu k f) := kp_t hkp10_0 (by decide) (fun _ _ _ => rfl)
            have gr10 : -3 ≤ r10.toInt ∧ r10.toInt ≤ -3 := hw10
            exact W.iret (v := r10) hx hb hr (fun t ht hW => ⟨⟨r10, xi10, rfl, ⟨ok, trivial, kp11⟩, by first | (subst ht; exact hP) | (rw [ht]; exact hP) | (show va_P (dC, dI) vwCl (wR 157 ad (EX cs ad) xi10) t.heap; rw [ht]; exact hP)⟩, hS.F ht⟩) hS.2.2 dX11_copy_56
          · have f9 : 0 ≤ (mu (8 + vt.toNatClampNeg) 1).toInt := f9
            refine lv_if_eq (tgt := 57) hx hb dX11_copy_48 (by decide) (fun _ => ?_) (fun c => absurd (by decide) c)
            refine lv_aload_n hx hb dX11_copy_57 rfl (lv_at hl 0 rfl) ?_
            refine va_get (D := (dC, dI)) (ci := 11) (v := .ref (ad 1)) (C := RX11) (T := TX11) (N := 11) hx hb hts inG11 hown hK hP 0 (gX_0 cs ad mu) rfl 0 (by decide) (hts _ (List.mem_cons_of_mem _ mw_2_158)) (fun _ h9 => h9) rfl dX11_copy_58 ?_
            refine lv_iload_n hx hb dX11_copy_61 rfl (lv_at hl 1 rfl) ?_
            have hx12 : 0 ≤ vr.toInt ∧ vr.toInt < ((6 : Nat) : Int) := ⟨by omega, by omega⟩
            refine va_aldq hx hb hK hP 1 2 (gX_1 cs ad mu) rfl (show vp_in vr 6 from vi_of hx12.1 hx12.2) dX11_copy_62 ?_
            have hk12 : 8 ≤ (8 + vr.toNatClampNeg) ∧ (8 + vr.toNatClampNeg) < 14 := ix_of hx12
            refine lq_v (.ref (ad (8 + vr.toNatClampNeg))) rfl ?_
            refine lv_iload_n hx hb dX11_copy_63 rfl (lv_at hl 2 rfl) ?_
            refine lv_iload hx hb dX11_copy_64 (lv_at hl 5 rfl) ?_
            refine cr_i (va_runV (As := [.int vi, .int vn]) (rest := []) ⟨hx, hb, hml, hown, hts⟩ (sx_holds l dC dI cs ad mu ok s.heap hP (8 + vr.toNatClampNeg) hk12.1 hk12.2 vi vn) (cwV 2 hts (wU_V mw_3_1 mw_2_238 mw_2_239 mw_3_0 mw_1_11) rfl rfl rfl (by decide +kernel) ⟨Nat.le_of_ble_eq_true rfl, Nat.le_of_ble_eq_true rfl⟩) ⟨sz_c, va_recv hK hP (ci := 6) (q0 := (8 + vr.toNatClampNeg)) rfl (gX_row cs ad mu (8 + vr.toNatClampNeg) hk12.1 hk12.2), sz_m hK hz⟩ rfl rfl hl.1 rfl (lv_room (Nat.le_of_ble_eq_true rfl)) dX11_copy_66 ⟨Nat.zero_le _, Nat.zero_le _⟩) hS (fun r13 hw13 locs hS => ?_)
            rcases hw13 with ⟨rfl, f13⟩ | ⟨rfl, f13⟩
            · have f13 : 0 ≤ vi.toInt ∧ vi.toInt ≤ (mu (8 + vr.toNatClampNeg) 1).toInt ∧ vn.toInt ≤ (mu (8 + vr.toNatClampNeg) 1).toInt - vi.toInt ∧ (mu (8 + vr.toNatClampNeg) 1).toInt ≤ 40 := f13
              refine lv_if_eq (tgt := 88) hx hb dX11_copy_69 (by decide) (fun c => absurd c (by decide)) (fun _ => ?_)
              refine lv_aload_n hx hb dX11_copy_72 rfl (lv_at hl 0 rfl) ?_
              refine va_get (D := (dC, dI)) (ci := 11) (v := .ref (ad 1)) (C := RX11) (T := TX11) (N := 11) hx hb hts inG11 hown hK hP 0 (gX_0 cs ad mu) rfl 0 (by decide) (hts _ (List.mem_cons_of_mem _ mw_2_158)) (fun _ h9 => h9) rfl dX11_copy_73 ?_
              refine lv_iload_n hx hb dX11_copy_76 rfl (lv_at hl 3 rfl) ?_
              have hx14 : 0 ≤ vt.toInt ∧ vt.toInt < ((6 : Nat) : Int) := ⟨by omega, by omega⟩
              refine va_aldq hx hb hK hP 1 2 (gX_1 cs ad mu) rfl (show vp_in vt 6 from vi_of hx14.1 hx14.2) dX11_copy_77 ?_
              have hk14 : 8 ≤ (8 + vt.toNatClampNeg) ∧ (8 + vt.toNatClampNeg) < 14 := ix_of hx14
              refine lq_v (.ref (ad (8 + vt.toNatClampNeg))) rfl ?_
              refine lv_iload hx hb dX11_copy_78 (lv_at hl 4 rfl) ?_
              refine lv_iload hx hb dX11_copy_80 (lv_at hl 5 rfl) ?_
              refine cr_i (va_runV (As := [.int vj, .int vn]) (rest := []) ⟨hx, hb, hml, hown, hts⟩ (sx_holds l dC dI cs ad mu ok s.heap hP (8 + vt.toNatClampNeg) hk14.1 hk14.2 vj vn) (cwV 2 hts (wU_V mw_3_1 mw_2_238 mw_2_239 mw_3_0 mw_1_11) rfl rfl rfl (by decide +kernel) ⟨Nat.le_of_ble_eq_true rfl, Nat.le_of_ble_eq_true rfl⟩) ⟨sz_c, va_recv hK hP (ci := 6) (q0 := (8 + vt.toNatClampNeg)) rfl (gX_row cs ad mu (8 + vt.toNatClampNeg) hk14.1 hk14.2), sz_m hK hz⟩ rfl rfl hl.1 rfl (lv_room (Nat.le_of_ble_eq_true rfl)) dX11_copy_82 ⟨Nat.zero_le _, Nat.zero_le _⟩) hS (fun r15 hw15 locs hS => ?_)
              rcases hw15 with ⟨rfl, f15⟩ | ⟨rfl, f15⟩
              · have f15 : 0 ≤ vj.toInt ∧ vj.toInt ≤ (mu (8 + vt.toNatClampNeg) 1).toInt ∧ vn.toInt ≤ (mu (8 + vt.toNatClampNeg) 1).toInt - vj.toInt ∧ (mu (8 + vt.toNatClampNeg) 1).toInt ≤ 40 := f15
                refine lv_if_ne (tgt := 94) hx hb dX11_copy_85 (by decide) (fun _ => ?_) (fun c => absurd c (by decide))
                refine lv_aload_n hx hb dX11_copy_94 rfl (lv_at hl 0 rfl) ?_
                refine va_get (D := (dC, dI)) (ci := 11) (v := .ref (ad 1)) (C := RX11) (T := TX11) (N := 11) hx hb hts inG11 hown hK hP 0 (gX_0 cs ad mu) rfl 0 (by decide) (hts _ (List.mem_cons_of_mem _ mw_2_158)) (fun _ h9 => h9) rfl dX11_copy_95 ?_
                refine lv_iload_n hx hb dX11_copy_98 rfl (lv_at hl 1 rfl) ?_
                have hx16 : 0 ≤ vr.toInt ∧ vr.toInt < ((6 : Nat) : Int) := ⟨by omega, by omega⟩
                refine va_aldq hx hb hK hP 1 2 (gX_1 cs ad mu) rfl (show vp_in vr 6 from vi_of hx16.1 hx16.2) dX11_copy_99 ?_
                have hk16 : 8 ≤ (8 + vr.toNatClampNeg) ∧ (8 + vr.toNatClampNeg) < 14 := ix_of hx16
                refine lq_v (.ref (ad (8 + vr.toNatClampNeg))) rfl ?_
                have hk17 : 21 ≤ (8 + vr.toNatClampNeg) + 13 ∧ (8 + vr.toNatClampNeg) + 13 < 27 := add_in 13 hk16.1 hk16.2
                refine va_get (D := (dC, dI)) (ci := 6) (v := .ref (ad ((8 + vr.toNatClampNeg) + 13))) (C := RX6) (T := TX6) (N := 2) hx hb hts inG6 hown hK hP (8 + vr.toNatClampNeg) (gX_row cs ad mu (8 + vr.toNatClampNeg) hk16.1 hk16.2) rfl 0 (by decide) (hts _ (List.mem_cons_of_mem _ mw_2_130)) (fun _ h9 => h9) rfl dX11_copy_100 ?_
                refine lv_iload_n hx hb dX11_copy_103 rfl (lv_at hl 2 rfl) ?_
                refine lv_aload_n hx hb dX11_copy_104 rfl (lv_at hl 0 rfl) ?_
                refine va_get (D := (dC, dI)) (ci := 11) (v := .ref (ad 1)) (C := RX11) (T := TX11) (N := 11) hx hb hts inG11 hown hK hP 0 (gX_0 cs ad mu) rfl 0 (by decide) (hts _ (List.mem_cons_of_mem _ mw_2_158)) (fun _ h9 => h9) rfl dX11_copy_105 ?_
                refine lv_iload_n hx hb dX11_copy_108 rfl (lv_at hl 3 rfl) ?_
                have hx18 : 0 ≤ vt.toInt ∧ vt.toInt < ((6 : Nat) : Int) := ⟨by omega, by omega⟩
                refine va_aldq hx hb hK hP 1 2 (gX_1 cs ad mu) rfl (show vp_in vt 6 from vi_of hx18.1 hx18.2) dX11_copy_109 ?_
                have hk18 : 8 ≤ (8 + vt.toNatClampNeg) ∧ (8 + vt.toNatClampNeg) < 14 := ix_of hx18
                refine lq_v (.ref (ad (8 + vt.toNatClampNeg))) rfl ?_
                have hk19 : 21 ≤ (8 + vt.toNatClampNeg) + 13 ∧ (8 + vt.toNatClampNeg) + 13 < 27 := add_in 13 hk18.1 hk18.2
                refine va_get (D := (dC, dI)) (ci := 6) (v := .ref (ad ((8 + vt.toNatClampNeg) + 13))) (C := RX6) (T := TX6) (N := 2) hx hb hts inG6 hown hK hP (8 + vt.toNatClampNeg) (gX_row cs ad mu (8 + vt.toNatClampNeg) hk18.1 hk18.2) rfl 0 (by decide) (hts _ (List.mem_cons_of_mem _ mw_2_130)) (fun _ h9 => h9) rfl dX11_copy_110 ?_
                refine lv_iload hx hb dX11_copy_113 (lv_at hl 4 rfl) ?_
                refine lv_iload hx hb dX11_copy_115 (lv_at hl 5 rfl) ?_
                refine va_copyi hx hb (hml.trans hl.1.symm) hown (hts _ (List.mem_cons_of_mem _ mw_3_2)) (hts _ (List.mem_cons_of_mem _ mw_3_4)) (hts _ (List.mem_cons_of_mem _ mw_3_3)) (hts _ (List.mem_cons_of_mem _ mw_1_15)) hK hP (wR_D mu hD) hS ((8 + vr.toNatClampNeg) + 13) ((8 + vt.toNatClampNeg) + 13) 0 0 (gX_places cs ad mu ((8 + vr.toNatClampNeg) + 13) hk17.1 hk17.2) (gX_places cs ad mu ((8 + vt.toNatClampNeg) + 13) hk19.1 hk19.2) rfl rfl rfl (nlt_of (by omega)) (nlt_of (by omega)) (nlt_of (by omega)) (by have ua : ((vi : Int32).toNatClampNeg : Int) = vi.toInt := tC_of (by omega); have ub : ((vj : Int32).toNatClampNeg : Int) = vj.toInt := tC_of (by omega); have uc : ((vn : Int32).toNatClampNeg : Int) = vn.toInt := tC_of (by omega); omega) (by have ua : ((vi : Int32).toNatClampNeg : Int) = vi.toInt := tC_of (by omega); have ub : ((vj : Int32).toNatClampNeg : Int) = vj.toInt := tC_of (by omega); have uc : ((vn : Int32).toNatClampNeg : Int) = vn.toInt := tC_of (by omega); omega) (fun _ _ => rfl) (Nat.le_of_ble_eq_true rfl) (Nat.le_of_ble_eq_true rfl) dX11_copy_117 (fun H locs hP _ hS => ?_)
                refine wr_gen (va_cpy (mu ((8 + vr.toNatClampNeg) + 13)) (mu ((8 + vt.toNatClampNeg) + 13)) (vi : Int32).toNatClampNeg (vj : Int32).toNatClampNeg (vn : Int32).toNatClampNeg) hP ((by rw [EX_places cs ad _ _ hk19.1 hk19.2])) (fun nu20 hn20 hP => ?_)
                have ok := okR_cp ok hn20 (cX_places_places ((8 + vr.toNatClampNeg) + 13) hk17.1 hk17.2 ((8 + vt.toNatClampNeg) + 13) hk19.1 hk19.2)
                have kp21 : (∀ k f : Nat, Nat.testBit 510 (gpX k f) = true → nu20 k f = mu k f) := kp_c 0 hn20 (fun _ => gpX_places hk19.1 hk19.2) (by decide) (fun _ _ _ => rfl)
                refine lv_iconst (v := 1) hx hb dX11_copy_120 (by decide) ?_
                exact W.iret (v := 1) hx hb hr (fun t ht hW => ⟨⟨1, nu20, rfl, ⟨ok, trivial, kp21⟩, by first | (subst ht; exact hP) | (rw [ht]; exact hP) | (show va_P (dC, dI) vwCl (wR 157 ad (EX cs ad) nu20) t.heap; rw [ht]; exact hP)⟩, hS.F ht⟩) hS.2.2 dX11_copy_121
              · have f15 : True := f15
                refine lv_if_ne (tgt := 94) hx hb dX11_copy_85 (by decide) (fun c => absurd (by decide) c) (fun _ => ?_)
                refine lv_aload_n hx hb dX11_copy_88 rfl (lv_at hl 0 rfl) ?_
                refine lv_iconst (v := 2) hx hb dX11_copy_89 (by decide) ?_
                have hFc := fr_all (wR_D mu hD) hS hA
                refine va_calli (va_runV (As := [.int 2]) (rest := []) ⟨hx, hb, hml, hown, hts⟩ (sx_found l dC dI cs ad mu ok s.heap hP ((wR_D mu hD).weaken (fun _ _ _ _ => trivial)) 2 (by have h50 : (2 : Int32).toInt = 2 := rfl; omega)) (cwV 1 hts (wU_V mw_2_202 mw_2_199 mw_2_201 mw_0_0 mw_1_1) rfl rfl rfl (by decide +kernel) ⟨Nat.le_of_ble_eq_true rfl, Nat.le_of_ble_eq_true rfl⟩) ⟨sz_c, va_recv hK hP (ci := 11) (q0 := 0) rfl (gX_0 cs ad mu), sz_m hK hz⟩ rfl rfl hl.1 rfl (lv_room (Nat.le_of_ble_eq_true rfl)) dX11_copy_90 ⟨Nat.zero_le _, Nat.zero_le _⟩) hS (fun q _ h => hFc q h) hFc (fun r22 xi22 t H22 locs ht hvm hw22 hB hz1 hk1 hS => ?_)
                have hP : va_P (dC, dI) vwCl (wR 157 ad (EX cs ad) xi22) H22 := by rw [← ht]; exact hB
                obtain ⟨hfe22, ok, hw22, hkp22_0⟩ := hw22
                have kp23 : (∀ k f : Nat, Nat.testBit 510 (gpX k f) = true → xi22 k f = mu k f) := kp_t hkp22_0 (by decide) (fun _ _ _ => rfl)
                have gr22 : -3 ≤ r22.toInt ∧ r22.toInt ≤ -3 := hw22
                exact W.iret (v := r22) hx hb hr (fun t ht hW => ⟨⟨r22, xi22, rfl, ⟨ok, trivial, kp23⟩, by first | (subst ht; exact hP) | (rw [ht]; exact hP) | (show va_P (dC, dI) vwCl (wR 157 ad (EX cs ad) xi22) t.heap; rw [ht]; exact hP)⟩, hS.F ht⟩) hS.2.2 dX11_copy_93
            · have f13 : True := f13
              refine lv_if_eq (tgt := 88) hx hb dX11_copy_69 (by decide) (fun _ => ?_) (fun c => absurd (by decide) c)
              refine lv_aload_n hx hb dX11_copy_88 rfl (lv_at hl 0 rfl) ?_
              refine lv_iconst (v := 2) hx hb dX11_copy_89 (by decide) ?_
              have hFc := fr_all (wR_D mu hD) hS hA
              refine va_calli (va_runV (As := [.int 2]) (rest := []) ⟨hx, hb, hml, hown, hts⟩ (sx_found l dC dI cs ad mu ok s.heap hP ((wR_D mu hD).weaken (fun _ _ _ _ => trivial)) 2 (by have h50 : (2 : Int32).toInt = 2 := rfl; omega)) (cwV 1 hts (wU_V mw_2_202 mw_2_199 mw_2_201 mw_0_0 mw_1_1) rfl rfl rfl (by decide +kernel) ⟨Nat.le_of_ble_eq_true rfl, Nat.le_of_ble_eq_true rfl⟩) ⟨sz_c, va_recv hK hP (ci := 11) (q0 := 0) rfl (gX_0 cs ad mu), sz_m hK hz⟩ rfl rfl hl.1 rfl (lv_room (Nat.le_of_ble_eq_true rfl)) dX11_copy_90 ⟨Nat.zero_le _, Nat.zero_le _⟩) hS (fun q _ h => hFc q h) hFc (fun r24 xi24 t H24 locs ht hvm hw24 hB hz1 hk1 hS => ?_)
              have hP : va_P (dC, dI) vwCl (wR 157 ad (EX cs ad) xi24) H24 := by rw [← ht]; exact hB
              obtain ⟨hfe24, ok, hw24, hkp24_0⟩ := hw24
              have kp25 : (∀ k f : Nat, Nat.testBit 510 (gpX k f) = true → xi24 k f = mu k f) := kp_t hkp24_0 (by decide) (fun _ _ _ => rfl)
              have gr24 : -3 ≤ r24.toInt ∧ r24.toInt ≤ -3 := hw24
              exact W.iret (v := r24) hx hb hr (fun t ht hW => ⟨⟨r24, xi24, rfl, ⟨ok, trivial, kp25⟩, by first | (subst ht; exact hP) | (rw [ht]; exact hP) | (show va_P (dC, dI) vwCl (wR 157 ad (EX cs ad) xi24) t.heap; rw [ht]; exact hP)⟩, hS.F ht⟩) hS.2.2 dX11_copy_93
      · have c_3 : vn.toInt < 0 := il_nle c_3
        refine lv_aload_n hx hb dX11_copy_21 rfl (lv_at hl 0 rfl) ?_
        refine lv_iconst (v := 5) hx hb dX11_copy_22 (by decide) ?_
        have hFc := fr_all (wR_D mu hD) hS hA
        refine va_calli (va_runV (As := [.int 5]) (rest := []) ⟨hx, hb, hml, hown, hts⟩ (sx_found l dC dI cs ad mu ok s.heap hP ((wR_D mu hD).weaken (fun _ _ _ _ => trivial)) 5 (by have h50 : (5 : Int32).toInt = 5 := rfl; omega)) (cwV 1 hts (wU_V mw_2_202 mw_2_199 mw_2_201 mw_0_0 mw_1_1) rfl rfl rfl (by decide +kernel) ⟨Nat.le_of_ble_eq_true rfl, Nat.le_of_ble_eq_true rfl⟩) ⟨sz_c, va_recv hK hP (ci := 11) (q0 := 0) rfl (gX_0 cs ad mu), sz_m hK hz⟩ rfl rfl hl.1 rfl (lv_room (Nat.le_of_ble_eq_true rfl)) dX11_copy_23 ⟨Nat.zero_le _, Nat.zero_le _⟩) hS (fun q _ h => hFc q h) hFc (fun r26 xi26 t H26 locs ht hvm hw26 hB hz1 hk1 hS => ?_)
        have hP : va_P (dC, dI) vwCl (wR 157 ad (EX cs ad) xi26) H26 := by rw [← ht]; exact hB
        obtain ⟨hfe26, ok, hw26, hkp26_0⟩ := hw26
        have kp27 : (∀ k f : Nat, Nat.testBit 510 (gpX k f) = true → xi26 k f = mu k f) := kp_t hkp26_0 (by decide) (fun _ _ _ => rfl)
        have gr26 : -3 ≤ r26.toInt ∧ r26.toInt ≤ -3 := hw26
        exact W.iret (v := r26) hx hb hr (fun t ht hW => ⟨⟨r26, xi26, rfl, ⟨ok, trivial, kp27⟩, by first | (subst ht; exact hP) | (rw [ht]; exact hP) | (show va_P (dC, dI) vwCl (wR 157 ad (EX cs ad) xi26) t.heap; rw [ht]; exact hP)⟩, hS.F ht⟩) hS.2.2 dX11_copy_26
    · have f2 : vt.toInt < 0 ∨ 5 < vt.toInt := f2
      refine lv_if_ne (tgt := 16) hx hb dX11_copy_11 (by decide) (fun c => absurd (by decide) c) (fun _ => ?_)
      refine lv_iconst (v := (-1)) hx hb dX11_copy_14 (by decide) ?_
      exact W.iret (v := (-1)) hx hb hr (fun t ht hW => ⟨⟨(-1), mu, rfl, ⟨ok, trivial, (fun _ _ _ => rfl)⟩, by first | (subst ht; exact hP) | (rw [ht]; exact hP) | (show va_P (dC, dI) vwCl (wR 157 ad (EX cs ad) mu) t.heap; rw [ht]; exact hP)⟩, hS.F ht⟩) hS.2.2 dX11_copy_15
  · have f1 : vr.toInt < 0 ∨ 5 < vr.toInt := f1
    refine lv_if_eq (tgt := 14) hx hb dX11_copy_4 (by decide) (fun _ => ?_) (fun c => absurd (by decide) c)
    refine lv_iconst (v := (-1)) hx hb dX11_copy_14 (by decide) ?_
    exact W.iret (v := (-1)) hx hb hr (fun t ht hW => ⟨⟨(-1), mu, rfl, ⟨ok, trivial, (fun _ _ _ => rfl)⟩, by first | (subst ht; exact hP) | (rw [ht]; exact hP) | (show va_P (dC, dI) vwCl (wR 157 ad (EX cs ad) mu) t.heap; rw [ht]; exact hP)⟩, hS.F ht⟩) hS.2.2 dX11_copy_15
set_option maxHeartbeats 4000000 in
set_option maxRecDepth 100000 in
/-- qx_mean -/
theorem qx_mean (l : Launch) (dC : Nat → ClassId) (dI : Nat → Nat → Nat) (cs : Nat → ClassId) (ad : Nat → Nat) (mu : Nat → Nat → Int32) (ok : okR loX hiX mu) (H : Heap) (hP : va_P (dC, dI) vwCl (wR 157 ad (EX cs ad) mu) H) (hD0 : va_D (fun _ => True) (wR 157 ad (EX cs ad) mu)) (vr : Int32) : Met l yX11_mean (wU yX11_mean cX11_mean 7 (some .int)) ({ frames := 2, cells := 0, slots := 0, locals := 42 }) (va_Pc [.ref (ad 0), .int vr] (sz_P (dC, dI) vwCl (tyW cs) H)) (va_Qi (fun (z : Int32) (xi : Nat → Nat → Int32) => okR loX hiX xi ∧ (True) ∧ (∀ k f : Nat, Nat.testBit 510 (gpX k f) = true → xi k f = mu k f)) (fun xi t => va_P (dC, dI) vwCl (wR 157 ad (EX cs ad) xi) t.heap) (va_A (wR 157 ad (EX cs ad) mu) H.size)) 0 0 (va_A (wR 157 ad (EX cs ad) mu) H.size) := by
  refine Met.ofW (cc := cX11_mean) (maxL := 7) (ret := (some .int)) (by decide) rfl ?_
  intro p e s m args below meth c s₁ B hml hv
  obtain ⟨rfl, hh, hK, hz⟩ := hv
  have hx := B.exec
  have hb := B.bytes
  have hr := B.returns
  have hts := atoms_spec (ws := (wU yX11_mean cX11_mean 7 (some .int))) B.pre
  have hown : s.vm.findClass RX11 = some m.cls := findClass_of_methodNamed B.named
  have hlocks := B.notSynchronized
  subst hh
  have hD := hD0.self (sz := s.heap.size)
  have hA : ∀ q : Nat, s.heap.size ≤ q → (va_A (wR 157 ad (EX cs ad) mu) s.heap.size) q := fun q h => Or.inr h
  have hS : va_S (va_A (wR 157 ad (EX cs ad) mu) s.heap.size) s.heap s.heap [] := va_S.rf
  have hl := lv_entry ([.ref (ad 0), .int vr]) (n := 7) (Nat.le_of_ble_eq_true rfl)
  rw [lg_entry_eq]
  generalize (lg_sl ([.ref (ad 0), .int vr]) ++ List.replicate (7 - (lg_sl ([.ref (ad 0), .int vr])).length) Slot.unset).toArray = ls at hl ⊢
  have hl : lv_has ls 7 [(0, .ref (ad 0)), (1, .int vr)] := hl
  refine lv_aload_n hx hb dX11_mean_0 rfl (lv_at hl 0 rfl) ?_
  refine lv_iload_n hx hb dX11_mean_1 rfl (lv_at hl 1 rfl) ?_
  have hFc := fr_all (wR_D mu hD) hS hA
  refine va_calli (va_runV (As := [.int vr]) (rest := []) ⟨hx, hb, hml, hown, hts⟩ (sx_refusedRow l dC dI cs ad mu ok s.heap hP ((wR_D mu hD).weaken (fun _ _ _ _ => trivial)) vr) (cwV 1 hts (wU_V mw_2_221 mw_2_218 mw_2_220 mw_0_2 mw_1_1) rfl rfl rfl (by decide +kernel) ⟨Nat.le_of_ble_eq_true rfl, Nat.le_of_ble_eq_true rfl⟩) ⟨sz_c, va_recv hK hP (ci := 11) (q0 := 0) rfl (gX_0 cs ad mu), sz_m hK hz⟩ rfl rfl hl.1 rfl (lv_room (Nat.le_of_ble_eq_true rfl)) dX11_mean_2 ⟨Nat.zero_le _, Nat.zero_le _⟩) hS (fun q _ h => hFc q h) hFc (fun r1 xi1 t H1 locs ht hvm hw1 hB hz1 hk1 hS => ?_)
  have hP : va_P (dC, dI) vwCl (wR 157 ad (EX cs ad) xi1) H1 := by rw [← ht]; exact hB
  obtain ⟨hfe1, hw1⟩ := hw1
  rcases hw1 with ⟨rfl, hxi1, f1⟩ | ⟨z1, ok, hkp1_0⟩
  · have hP : va_P (dC, dI) vwCl (wR 157 ad (EX cs ad) mu) H1 := by rw [← hxi1]; exact hP
    have f1 : 0 ≤ vr.toInt ∧ vr.toInt ≤ 5 ∧ 0 ≤ (mu (8 + vr.toNatClampNeg) 1).toInt := f1
    refine lv_istore_n (lv' := [(2, .int 0), (0, .ref (ad 0)), (1, .int vr)]) hx hb dX11_mean_5 rfl hl (by decide) rfl (fun ls hl => ?_)
    refine lv_iload_n hx hb dX11_mean_6 rfl (lv_at hl 0 rfl) ?_
    refine lv_if_eq (tgt := 12) hx hb dX11_mean_7 (by decide) (fun _ => ?_) (fun c => absurd (by decide) c)
    refine lv_aload_n hx hb dX11_mean_12 rfl (lv_at hl 1 rfl) ?_
    refine va_get (D := (dC, dI)) (ci := 11) (v := .ref (ad 1)) (C := RX11) (T := TX11) (N := 11) hx hb hts inG11 hown hK hP 0 (gX_0 cs ad mu) rfl 0 (by decide) (hts _ (List.mem_cons_of_mem _ mw_2_158)) (fun _ h9 => h9) rfl dX11_mean_13 ?_
    refine lv_iload_n hx hb dX11_mean_16 rfl (lv_at hl 2 rfl) ?_
    have hx3 : 0 ≤ vr.toInt ∧ vr.toInt < ((6 : Nat) : Int) := ⟨by omega, by omega⟩
    refine va_aldq hx hb hK hP 1 2 (gX_1 cs ad mu) rfl (show vp_in vr 6 from vi_of hx3.1 hx3.2) dX11_mean_17 ?_
    have hk3 : 8 ≤ (8 + vr.toNatClampNeg) ∧ (8 + vr.toNatClampNeg) < 14 := ix_of hx3
    refine lq_v (.ref (ad (8 + vr.toNatClampNeg))) rfl ?_
    refine va_get (D := (dC, dI)) (ci := 6) (v := .int (mu (8 + vr.toNatClampNeg) 1)) (C := RX6) (T := TX6) (N := 2) hx hb hts inG6 hown hK hP (8 + vr.toNatClampNeg) (gX_row cs ad mu (8 + vr.toNatClampNeg) hk3.1 hk3.2) rfl 1 (by decide) (hts _ (List.mem_cons_of_mem _ mw_2_134)) (fun _ h9 => h9) rfl dX11_mean_18 ?_
    refine lv_topi (fun y4 ey4 => ?_)
    have by4 : y4.toInt = (mu (8 + vr.toNatClampNeg) 1).toInt := congrArg Int32.toInt ey4
    have gy4 : -1 ≤ y4.toInt ∧ y4.toInt ≤ 40 := by rw [ey4]; exact rX_row_1 ok (8 + vr.toNatClampNeg) hk3.1 hk3.2
    refine lv_istore_n (lv' := [(3, .int y4), (2, .int 0), (0, .ref (ad 0)), (1, .int vr)]) hx hb dX11_mean_21 rfl hl (by decide) rfl (fun ls hl => ?_)
    refine lv_iload_n hx hb dX11_mean_22 rfl (lv_at hl 0 rfl) ?_
    refine lv_if_gt (tgt := 32) hx hb dX11_mean_23 (by decide) (fun c_5 => ?_) (fun c_5 => ?_)
    · have c_5 : 0 < y4.toInt := il_lt c_5
      refine lv_lconst (v := 0) hx hb dX11_mean_32 (by decide) ?_
      refine lv_lstore (lv' := [(4, .long 0), (3, .int y4), (2, .int 0), (0, .ref (ad 0)), (1, .int vr)]) hx hb dX11_mean_33 hl (by decide) rfl (fun ls hl => ?_)
      refine lv_iconst (v := 0) hx hb dX11_mean_35 (by decide) ?_
      refine lv_istore (lv' := [(6, .int 0), (4, .long 0), (3, .int y4), (2, .int 0), (0, .ref (ad 0)), (1, .int vr)]) hx hb dX11_mean_36 hl (by decide) rfl (fun ls hl => ?_)
      have loop38 : ∀ (n38 : Nat) (v4_38 : Int64) (v6_38 : Int32) (nu38_ : Nat → Nat → Int32) (H : Heap) (locs : List Loc) (ls : Array Slot), (40 + 1 - v6_38.toInt).toNat < n38 → (0 ≤ v6_38.toInt ∧ v6_38.toInt ≤ 40) → okR loX hiX nu38_ → va_P (dC, dI) vwCl (wR 157 ad (EX cs ad) nu38_) H → (∀ k f : Nat, Nat.testBit 510 (gpX k f) = true → nu38_ k f = mu k f) → va_S (va_A (wR 157 ad (EX cs ad) mu) s.heap.size) s.heap H locs → lv_has ls 7 [(6, .int v6_38), (4, .long v4_38), (3, .int y4), (2, .int 0), (0, .ref (ad 0)), (1, .int vr)] → W p l e (headSpec (wU yX11_mean cX11_mean 7 (some .int)) ({ frames := 2, cells := 0, slots := 0, locals := 42 })).room s m ([.ref (ad 0), .int vr] : List Value).toArray below meth c H locs 0 0 (MQ below (va_Qi (fun (z : Int32) (xi : Nat → Nat → Int32) => okR loX hiX xi ∧ (True) ∧ (∀ k f : Nat, Nat.testBit 510 (gpX k f) = true → xi k f = mu k f)) (fun xi t => va_P (dC, dI) vwCl (wR 157 ad (EX cs ad) xi) t.heap) (va_A (wR 157 ad (EX cs ad) mu) s.heap.size)) ([.ref (ad 0), .int vr] : List Value).toArray s 0 0 (va_A (wR 157 ad (EX cs ad) mu) s.heap.size)) (F0 m 38 ls []) := by
        intro n38
        induction n38 with
        | zero => intro v4_38 v6_38 nu38_ H locs ls hm; exact absurd hm (Nat.not_lt_zero _)
        | succ n38 ih38 =>
          intro v4_38 v6_38 nu38_ H locs ls hm_38 h_v6_38 ok hP kq38_0 hS hl
          refine lv_iload hx hb dX11_mean_38 (lv_at hl 0 rfl) ?_
          refine lv_iload_n hx hb dX11_mean_40 rfl (lv_at hl 2 rfl) ?_
          refine lv_icmp_ge (tgt := 68) hx hb dX11_mean_41 (by decide) (fun c_6 => ?_) (fun c_6 => ?_)
          · have c_6 : y4.toInt ≤ v6_38.toInt := il_le c_6
            refine lv_aload_n hx hb dX11_mean_68 rfl (lv_at hl 4 rfl) ?_
            refine lv_lload hx hb dX11_mean_69 (lv_at hl 1 rfl) ?_
            refine lv_iload_n hx hb dX11_mean_71 rfl (lv_at hl 2 rfl) ?_
            refine lv_i2l hx hb dX11_mean_72 rfl ?_
            refine lv_topl (fun l7 el7 => ?_)
            refine lv_ldiv hx hb dX11_mean_73 (by rw [el7]; exact l_ne (by omega)) ?_
            refine lv_topl (fun l8 el8 => ?_)
            refine lv_l2i hx hb dX11_mean_74 rfl ?_
            refine lv_topi (fun t9 et9 => ?_)
            refine va_put (D := (dC, dI)) (ci := 11) (v := .int t9) (ty := .int) (C := RX11) (T := TX11) (N := 11) hx hb hts inG11 tyX11 tyX11_ok nmX11 hown hK hP (wR_D nu38_ hD) hS 0 (gX_0 cs ad nu38_) rfl 10 (by decide) (hts _ (List.mem_cons_of_mem _ mw_2_168)) (fun _ h9 => h9) rfl (by decide +kernel) rfl rfl (Nat.le_of_ble_eq_true rfl) dX11_mean_75 (fun H locs hP _ hS => ?_)
            simp only [List.set_cons_succ, List.set_cons_zero] at hP
            refine wr_gen (upd (nu38_ 0) 10 t9) hP ((hX_0_10 cs ad _ _)) (fun nu10 hn10 hP => ?_)
            have ok := tX_0_10 ok hn10
            have kp11 : (∀ k f : Nat, Nat.testBit 510 (gpX k f) = true → nu10 k f = mu k f) := kp_c 0 hn10 (fun _ => rfl) (by decide) kq38_0
            have ez12 : t9 = nu10 0 10 := up_v hn10
            refine lv_iconst (v := 1) hx hb dX11_mean_78 (by decide) ?_
            exact W.iret (v := 1) hx hb hr (fun t ht hW => ⟨⟨1, nu10, rfl, ⟨ok, trivial, kp11⟩, by first | (subst ht; exact hP) | (rw [ht]; exact hP) | (show va_P (dC, dI) vwCl (wR 157 ad (EX cs ad) nu10) t.heap; rw [ht]; exact hP)⟩, hS.F ht⟩) hS.2.2 dX11_mean_79
          · have c_6 : v6_38.toInt < y4.toInt := il_nle c_6
            refine lv_lload hx hb dX11_mean_44 (lv_at hl 1 rfl) ?_
            refine lv_aload_n hx hb dX11_mean_46 rfl (lv_at hl 4 rfl) ?_
            refine va_get (D := (dC, dI)) (ci := 11) (v := .ref (ad 1)) (C := RX11) (T := TX11) (N := 11) hx hb hts inG11 hown hK hP 0 (gX_0 cs ad nu38_) rfl 0 (by decide) (hts _ (List.mem_cons_of_mem _ mw_2_158)) (fun _ h9 => h9) rfl dX11_mean_47 ?_
            refine lv_iload_n hx hb dX11_mean_50 rfl (lv_at hl 5 rfl) ?_
            have hx13 : 0 ≤ vr.toInt ∧ vr.toInt < ((6 : Nat) : Int) := ⟨by omega, by omega⟩
            refine va_aldq hx hb hK hP 1 2 (gX_1 cs ad nu38_) rfl (show vp_in vr 6 from vi_of hx13.1 hx13.2) dX11_mean_51 ?_
            have hk13 : 8 ≤ (8 + vr.toNatClampNeg) ∧ (8 + vr.toNatClampNeg) < 14 := ix_of hx13
            refine lq_v (.ref (ad (8 + vr.toNatClampNeg))) rfl ?_
            have hk14 : 21 ≤ (8 + vr.toNatClampNeg) + 13 ∧ (8 + vr.toNatClampNeg) + 13 < 27 := add_in 13 hk13.1 hk13.2
            refine va_get (D := (dC, dI)) (ci := 6) (v := .ref (ad ((8 + vr.toNatClampNeg) + 13))) (C := RX6) (T := TX6) (N := 2) hx hb hts inG6 hown hK hP (8 + vr.toNatClampNeg) (gX_row cs ad nu38_ (8 + vr.toNatClampNeg) hk13.1 hk13.2) rfl 0 (by decide) (hts _ (List.mem_cons_of_mem _ mw_2_130)) (fun _ h9 => h9) rfl dX11_mean_52 ?_
            refine lv_iload hx hb dX11_mean_55 (lv_at hl 0 rfl) ?_
            refine va_iald hx hb hK hP ((8 + vr.toNatClampNeg) + 13) 0 (gX_places cs ad nu38_ ((8 + vr.toNatClampNeg) + 13) hk14.1 hk14.2) rfl (show vp_in v6_38 40 from vi_of (by omega) (by omega)) dX11_mean_57 ?_
            refine lv_topi (fun y15 ey15 => ?_)
            have by15 : y15.toInt = (nu38_ ((8 + vr.toNatClampNeg) + 13) v6_38.toNatClampNeg).toInt := congrArg Int32.toInt ey15
            refine lv_i2l hx hb dX11_mean_58 rfl ?_
            refine lv_topl (fun l16 el16 => ?_)
            refine lv_ladd hx hb dX11_mean_59 ?_
            refine lv_topl (fun l17 el17 => ?_)
            refine lv_lstore (lv' := [(4, .long l17), (6, .int v6_38), (3, .int y4), (2, .int 0), (0, .ref (ad 0)), (1, .int vr)]) hx hb dX11_mean_60 hl (by decide) rfl (fun ls hl => ?_)
            refine lv_iinc (v := (v6_38 + 1)) (lv' := [(6, .int (v6_38 + 1)), (4, .long l17), (3, .int y4), (2, .int 0), (0, .ref (ad 0)), (1, .int vr)]) hx hb dX11_mean_62 hl (k := 1) rfl rfl (by decide) rfl (fun ls hl => ?_)
            refine loc_gen (P := fun w9 => lv_has ls 7 [(6, .int w9), (4, .long l17), (3, .int y4), (2, .int 0), (0, .ref (ad 0)), (1, .int vr)]) (v6_38 + 1) hl (fun w18 hw18 hl => ?_)
            have hl : lv_has ls 7 [(6, .int w18), (4, .long l17), (3, .int y4), (2, .int 0), (0, .ref (ad 0)), (1, .int vr)] := hl
            have aw18 : w18.toInt = v6_38.toInt + 1 := by rw [← hw18]; exact va1 (by omega)
            refine lv_goto (tgt := 38) hx hb dX11_mean_65 (by decide) ?_
            exact ih38 (l17) (w18) nu38_ _ _ _ (by first | exact ms_lt hm_38 (by omega) (by omega) | omega) (by omega)  ok hP  kq38_0 hS (lv_sub hl [0, 1, 2, 3, 4, 5] rfl)
      exact loop38 ((40 + 1 - (0 : Int32).toInt).toNat + 1) (0) (0) mu _ _ _ (Nat.lt_succ_self _) (by have h80 : (0 : Int32).toInt = 0 := rfl; exact ⟨by omega, by omega⟩)  ok hP  (fun _ _ _ => rfl) hS hl
    · have c_5 : y4.toInt ≤ 0 := il_nlt c_5
      refine lv_aload_n hx hb dX11_mean_26 rfl (lv_at hl 2 rfl) ?_
      refine lv_iconst (v := 4) hx hb dX11_mean_27 (by decide) ?_
      have hFc := fr_all (wR_D mu hD) hS hA
      refine va_calli (va_runV (As := [.int 4]) (rest := []) ⟨hx, hb, hml, hown, hts⟩ (sx_found l dC dI cs ad mu ok H1 hP ((wR_D mu hD).weaken (fun _ _ _ _ => trivial)) 4 (by have h50 : (4 : Int32).toInt = 4 := rfl; omega)) (cwV 1 hts (wU_V mw_2_202 mw_2_199 mw_2_201 mw_0_0 mw_1_1) rfl rfl rfl (by decide +kernel) ⟨Nat.le_of_ble_eq_true rfl, Nat.le_of_ble_eq_true rfl⟩) ⟨sz_c, va_recv hK hP (ci := 11) (q0 := 0) rfl (gX_0 cs ad mu), sz_m hK hz⟩ rfl rfl hl.1 rfl (lv_room (Nat.le_of_ble_eq_true rfl)) dX11_mean_28 ⟨Nat.zero_le _, Nat.zero_le _⟩) hS (fun q _ h => hFc q h) hFc (fun r19 xi19 t H19 locs ht hvm hw19 hB hz1 hk1 hS => ?_)
      have hP : va_P (dC, dI) vwCl (wR 157 ad (EX cs ad) xi19) H19 := by rw [← ht]; exact hB
      obtain ⟨hfe19, ok, hw19, hkp19_0⟩ := hw19
      have kp20 : (∀ k f : Nat, Nat.testBit 510 (gpX k f) = true → xi19 k f = mu k f) := kp_t hkp19_0 (by decide) (fun _ _ _ => rfl)
      have gr19 : -3 ≤ r19.toInt ∧ r19.toInt ≤ -3 := hw19
      exact W.iret (v := r19) hx hb hr (fun t ht hW => ⟨⟨r19, xi19, rfl, ⟨ok, trivial, kp20⟩, by first | (subst ht; exact hP) | (rw [ht]; exact hP) | (show va_P (dC, dI) vwCl (wR 157 ad (EX cs ad) xi19) t.heap; rw [ht]; exact hP)⟩, hS.F ht⟩) hS.2.2 dX11_mean_31
  · have kp2 : (∀ k f : Nat, Nat.testBit 510 (gpX k f) = true → xi1 k f = mu k f) := kp_t hkp1_0 (by decide) (fun _ _ _ => rfl)
    skip
    refine lv_istore_n (lv' := [(2, .int r1), (0, .ref (ad 0)), (1, .int vr)]) hx hb dX11_mean_5 rfl hl (by decide) rfl (fun ls hl => ?_)
    refine lv_iload_n hx hb dX11_mean_6 rfl (lv_at hl 0 rfl) ?_
    refine lv_if_eq (tgt := 12) hx hb dX11_mean_7 (by decide) (fun c_21 => by have c_21 : r1.toInt = 0 := il_eq c_21; exfalso; omega) (fun c_21 => ?_)
    have c_21 : ¬ r1.toInt = 0 := il_ne c_21
    refine lv_iload_n hx hb dX11_mean_10 rfl (lv_at hl 0 rfl) ?_
    exact W.iret (v := r1) hx hb hr (fun t ht hW => ⟨⟨r1, xi1, rfl, ⟨ok, trivial, kp2⟩, by first | (subst ht; exact hP) | (rw [ht]; exact hP) | (show va_P (dC, dI) vwCl (wR 157 ad (EX cs ad) xi1) t.heap; rw [ht]; exact hP)⟩, hS.F ht⟩) hS.2.2 dX11_mean_11
theorem mw_2_146 : (Cond.fieldLink RX4 36 "DearLetters$Text" "bytes" "[B" : Cond) ∈ lw_good := lg_at 2 146 rfl rfl
theorem mw_3_57 : (Cond.code yX4_kindSigned cX4_kindSigned 2 (some .int) : Cond) ∈ lw_good := lg_at 3 57 rfl rfl
theorem mw_3_55 : (Cond.methodLink RX4 47 yX4_kindSigned : Cond) ∈ lw_good := lg_at 3 55 rfl rfl
theorem mw_3_56 : (Cond.static yX4_kindSigned : Cond) ∈ lw_good := lg_at 3 56 rfl rfl
theorem mw_1_5 : (Cond.initialized RX4 : Cond) ∈ lw_good := lg_at 1 5 rfl rfl
theorem mw_1_196 : (Cond.fieldLink RX4 28 "DearLetters$Reading" "paths" "I" : Cond) ∈ lw_good := lg_at 1 196 rfl rfl
theorem mw_1_195 : (Cond.fieldLink RX4 24 "DearLetters$Reading" "bearers" "I" : Cond) ∈ lw_good := lg_at 1 195 rfl rfl
theorem mw_3_50 : (Cond.code yX9_figureAt cX9_figureAt 2 (some .int) : Cond) ∈ lw_good := lg_at 3 50 rfl rfl
theorem mw_3_47 : (Cond.methodLink RX4 51 yX9_figureAt : Cond) ∈ lw_good := lg_at 3 47 rfl rfl
theorem mw_3_48 : (Cond.instanceMethod yX9_figureAt : Cond) ∈ lw_good := lg_at 3 48 rfl rfl
theorem mw_3_49 : (Cond.selects RX9 yX9_figureAt yX9_figureAt : Cond) ∈ lw_good := lg_at 3 49 rfl rfl
theorem mw_1_191 : (Cond.fieldLink RX4 9 "DearLetters$Reading" "kinds" "[I" : Cond) ∈ lw_good := lg_at 1 191 rfl rfl
theorem mw_1_192 : (Cond.fieldLink RX4 15 "DearLetters$Reading" "purses" "[I" : Cond) ∈ lw_good := lg_at 1 192 rfl rfl
theorem mw_1_193 : (Cond.fieldLink RX4 18 "DearLetters$Reading" "oneEnds" "[I" : Cond) ∈ lw_good := lg_at 1 193 rfl rfl
theorem mw_1_194 : (Cond.fieldLink RX4 21 "DearLetters$Reading" "otherEnds" "[I" : Cond) ∈ lw_good := lg_at 1 194 rfl rfl
theorem mw_2_149 : (Cond.fieldLink RX4 31 "DearLetters$Text" "size" "I" : Cond) ∈ lw_good := lg_at 2 149 rfl rfl
theorem mw_3_54 : (Cond.code yX4_faultInBearer cX4_faultInBearer 6 (some .int) : Cond) ∈ lw_good := lg_at 3 54 rfl rfl
theorem mw_3_51 : (Cond.methodLink RX4 44 yX4_faultInBearer : Cond) ∈ lw_good := lg_at 3 51 rfl rfl
theorem mw_3_53 : (Cond.instanceMethod yX4_faultInBearer : Cond) ∈ lw_good := lg_at 3 53 rfl rfl
theorem mw_0_5 : (Cond.selects RX4 yX4_faultInBearer yX4_faultInBearer : Cond) ∈ lw_good := lg_at 0 5 rfl rfl
theorem mw_3_46 : (Cond.code yX4_faultInPath cX4_faultInPath 5 (some .int) : Cond) ∈ lw_good := lg_at 3 46 rfl rfl
theorem mw_3_43 : (Cond.methodLink RX4 40 yX4_faultInPath : Cond) ∈ lw_good := lg_at 3 43 rfl rfl
theorem mw_3_45 : (Cond.instanceMethod yX4_faultInPath : Cond) ∈ lw_good := lg_at 3 45 rfl rfl
theorem mw_0_4 : (Cond.selects RX4 yX4_faultInPath yX4_faultInPath : Cond) ∈ lw_good := lg_at 0 4 rfl rfl
theorem rX_31_5 {mu : Nat → Nat → Int32} (ok : okR loX hiX mu) : 0 ≤ (mu 31 5).toInt ∧ (mu 31 5).toInt ≤ 12 := ok 31 5
theorem rX_31_4 {mu : Nat → Nat → Int32} (ok : okR loX hiX mu) : 0 ≤ (mu 31 4).toInt ∧ (mu 31 4).toInt ≤ 7 := ok 31 4
theorem tX_48_s {mu : Nat → Nat → Int32} (ok : okR loX hiX mu) {nu : Nat → Nat → Int32} {v : Int32} (f : Nat) (hn : va_up mu 48 (upd (mu 48) f v) = nu) : okR loX hiX nu := by
  subst hn
  exact okR_up ok 48 f v (tI_lo v) (tI_hi v)
theorem tX_49_s {mu : Nat → Nat → Int32} (ok : okR loX hiX mu) {nu : Nat → Nat → Int32} {v : Int32} (f : Nat) (hn : va_up mu 49 (upd (mu 49) f v) = nu) : okR loX hiX nu := by
  subst hn
  exact okR_up ok 49 f v (tI_lo v) (tI_hi v)
theorem hX_31_4 (cs : Nat → ClassId) (ad : Nat → Nat) (g : Nat → Int32) (v : Int32) : EX cs ad 31 (upd g 4 v) = .inr (4, [.ref (ad 48), .ref (ad 49), .ref (ad 50), .ref (ad 51), .int v, .int (g 5)]) := by
  rfl
theorem tX_31_4 {mu : Nat → Nat → Int32} (ok : okR loX hiX mu) {nu : Nat → Nat → Int32} {v : Int32} (hn : va_up mu 31 (upd (mu 31) 4 v) = nu) (hv : 0 ≤ v.toInt ∧ v.toInt ≤ 7) : okR loX hiX nu := by
  subst hn
  exact okR_up ok 31 4 v hv.1 hv.2
theorem tX_50_s {mu : Nat → Nat → Int32} (ok : okR loX hiX mu) {nu : Nat → Nat → Int32} {v : Int32} (f : Nat) (hn : va_up mu 50 (upd (mu 50) f v) = nu) (hv : 0 ≤ v.toInt ∧ v.toInt ≤ 6) : okR loX hiX nu := by
  subst hn
  exact okR_up ok 50 f v hv.1 hv.2
theorem tX_51_s {mu : Nat → Nat → Int32} (ok : okR loX hiX mu) {nu : Nat → Nat → Int32} {v : Int32} (f : Nat) (hn : va_up mu 51 (upd (mu 51) f v) = nu) (hv : 0 ≤ v.toInt ∧ v.toInt ≤ 6) : okR loX hiX nu := by
  subst hn
  exact okR_up ok 51 f v hv.1 hv.2
theorem hX_31_5 (cs : Nat → ClassId) (ad : Nat → Nat) (g : Nat → Int32) (v : Int32) : EX cs ad 31 (upd g 5 v) = .inr (4, [.ref (ad 48), .ref (ad 49), .ref (ad 50), .ref (ad 51), .int (g 4), .int v]) := by
  rfl
theorem tX_31_5 {mu : Nat → Nat → Int32} (ok : okR loX hiX mu) {nu : Nat → Nat → Int32} {v : Int32} (hn : va_up mu 31 (upd (mu 31) 5 v) = nu) (hv : 0 ≤ v.toInt ∧ v.toInt ≤ 12) : okR loX hiX nu := by
  subst hn
  exact okR_up ok 31 5 v hv.1 hv.2
