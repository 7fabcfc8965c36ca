theorem dX11_lay_0 : decode cX11_lay 0 = .ok (.aload_n 0, 1) := by decide +kernel
theorem dX11_lay_1 : decode cX11_lay 1 = .ok (.iload_n 1, 1) := by decide +kernel
theorem dX11_lay_2 : decode cX11_lay 2 = .ok (.iload_n 2, 1) := by decide +kernel
theorem dX11_lay_3 : decode cX11_lay 3 = .ok (.invokevirtual 81, 3) := by decide +kernel
theorem dX11_lay_6 : decode cX11_lay 6 = .ok (.istore 4, 2) := by decide +kernel
theorem dX11_lay_8 : decode cX11_lay 8 = .ok (.iload 4, 2) := by decide +kernel
theorem dX11_lay_10 : decode cX11_lay 10 = .ok (.ifCond .eq 6, 3) := by decide +kernel
theorem dX11_lay_16 : decode cX11_lay 16 = .ok (.aload_n 0, 1) := by decide +kernel
theorem dX11_lay_17 : decode cX11_lay 17 = .ok (.aload_n 0, 1) := by decide +kernel
theorem dX11_lay_18 : decode cX11_lay 18 = .ok (.getfield 11, 3) := by decide +kernel
theorem dX11_lay_21 : decode cX11_lay 21 = .ok (.iload_n 1, 1) := by decide +kernel
theorem dX11_lay_22 : decode cX11_lay 22 = .ok (.aaload, 1) := by decide +kernel
theorem dX11_lay_23 : decode cX11_lay 23 = .ok (.getfield 85, 3) := by decide +kernel
theorem dX11_lay_26 : decode cX11_lay 26 = .ok (.iload_n 2, 1) := by decide +kernel
theorem dX11_lay_27 : decode cX11_lay 27 = .ok (.iaload, 1) := by decide +kernel
theorem dX11_lay_28 : decode cX11_lay 28 = .ok (.putfield 88, 3) := by decide +kernel
theorem dX11_lay_31 : decode cX11_lay 31 = .ok (.aload_n 0, 1) := by decide +kernel
theorem dX11_lay_32 : decode cX11_lay 32 = .ok (.getfield 11, 3) := by decide +kernel
theorem dX11_lay_35 : decode cX11_lay 35 = .ok (.iload_n 1, 1) := by decide +kernel
theorem dX11_lay_36 : decode cX11_lay 36 = .ok (.aaload, 1) := by decide +kernel
theorem dX11_lay_37 : decode cX11_lay 37 = .ok (.getfield 85, 3) := by decide +kernel
theorem dX11_lay_40 : decode cX11_lay 40 = .ok (.iload_n 2, 1) := by decide +kernel
theorem dX11_lay_41 : decode cX11_lay 41 = .ok (.iload_n 3, 1) := by decide +kernel
theorem dX11_lay_42 : decode cX11_lay 42 = .ok (.iastore, 1) := by decide +kernel
theorem dX11_lay_43 : decode cX11_lay 43 = .ok (.iconst 1, 1) := by decide +kernel
theorem dX11_lay_44 : decode cX11_lay 44 = .ok (.ireturn, 1) := by decide +kernel
theorem dX11_lay_13 : decode cX11_lay 13 = .ok (.iload 4, 2) := by decide +kernel
theorem dX11_lay_15 : decode cX11_lay 15 = .ok (.ireturn, 1) := by decide +kernel
set_option maxHeartbeats 4000000 in
set_option maxRecDepth 100000 in
/-- qx_lay -/
theorem qx_lay (l : Launch) (dC : Nat → ClassId) (dI : Nat → Nat → Nat) (cs : Nat → ClassId) (ad : Nat → Nat) (mu : Nat → Nat → Int32) (ok : okR loX hiX mu) (H : Heap) (hP : va_P (dC, dI) vwCl (wR 157 ad (EX cs ad) mu) H) (hD0 : va_D (fun _ => True) (wR 157 ad (EX cs ad) mu)) (vr : Int32) (vi : Int32) (vv : Int32) : Met l yX11_lay (wU yX11_lay cX11_lay 5 (some .int)) ({ frames := 3, cells := 0, slots := 0, locals := 65 }) (va_Pc [.ref (ad 0), .int vr, .int vi, .int vv] (sz_P (dC, dI) vwCl (tyW cs) H)) (va_Qi (fun (z : Int32) (xi : Nat → Nat → Int32) => okR loX hiX xi ∧ True) (fun xi t => va_P (dC, dI) vwCl (wR 157 ad (EX cs ad) xi) t.heap) (va_A (wR 157 ad (EX cs ad) mu) H.size)) 0 0 (va_A (wR 157 ad (EX cs ad) mu) H.size) := by
  refine Met.ofW (cc := cX11_lay) (maxL := 5) (ret := (some .int)) (by decide) rfl ?_
  intro p e s m args below meth c s₁ B hml hv
  obtain ⟨rfl, hh, hK, hz⟩ := hv
  have hx := B.exec
  have hb := B.bytes
  have hr := B.returns
  have hts := atoms_spec (ws := (wU yX11_lay cX11_lay 5 (some .int))) B.pre
  have hown : s.vm.findClass RX11 = some m.cls := findClass_of_methodNamed B.named
  have hlocks := B.notSynchronized
  subst hh
  have hD := hD0.self (sz := s.heap.size)
  have hA : ∀ q : Nat, s.heap.size ≤ q → (va_A (wR 157 ad (EX cs ad) mu) s.heap.size) q := fun q h => Or.inr h
  have hS : va_S (va_A (wR 157 ad (EX cs ad) mu) s.heap.size) s.heap s.heap [] := va_S.rf
  have hl := lv_entry ([.ref (ad 0), .int vr, .int vi, .int vv]) (n := 5) (Nat.le_of_ble_eq_true rfl)
  rw [lg_entry_eq]
  generalize (lg_sl ([.ref (ad 0), .int vr, .int vi, .int vv]) ++ List.replicate (5 - (lg_sl ([.ref (ad 0), .int vr, .int vi, .int vv])).length) Slot.unset).toArray = ls at hl ⊢
  have hl : lv_has ls 5 [(0, .ref (ad 0)), (1, .int vr), (2, .int vi), (3, .int vv)] := hl
  refine lv_aload_n hx hb dX11_lay_0 rfl (lv_at hl 0 rfl) ?_
  refine lv_iload_n hx hb dX11_lay_1 rfl (lv_at hl 1 rfl) ?_
  refine lv_iload_n hx hb dX11_lay_2 rfl (lv_at hl 2 rfl) ?_
  have hFc := fr_all (wR_D mu hD) hS hA
  refine va_calli (va_runV (As := [.int vr, .int vi]) (rest := []) ⟨hx, hb, hml, hown, hts⟩ (sx_refusedPlace l dC dI cs ad mu ok s.heap hP ((wR_D mu hD).weaken (fun _ _ _ _ => trivial)) vr vi) (cwV 2 hts (wU_V (lg_at 2 217 (by decide +kernel) rfl) (lg_at 2 214 (by decide +kernel) rfl) (lg_at 2 216 (by decide +kernel) rfl) (lg_at 0 1 (by decide +kernel) rfl) (lg_at 1 1 (by decide +kernel) rfl)) rfl rfl rfl (by decide +kernel) ⟨Nat.le_of_ble_eq_true rfl, Nat.le_of_ble_eq_true rfl⟩) ⟨sz_c, va_recv hK hP (ci := 11) (q0 := 0) rfl (gX_0 cs ad mu), sz_m hK hz⟩ rfl rfl hl.1 rfl (lv_room (Nat.le_of_ble_eq_true rfl)) dX11_lay_3 ⟨Nat.zero_le _, Nat.zero_le _⟩) hS (fun q _ h => hFc q h) hFc (fun r1 xi1 t H1 locs ht hvm hw1 hB hz1 hk1 hS => ?_)
  have hP : va_P (dC, dI) vwCl (wR 157 ad (EX cs ad) xi1) H1 := by rw [← ht]; exact hB
  rcases hw1 with ⟨rfl, hxi, f1⟩ | ⟨z1, ok⟩
  · have hP : va_P (dC, dI) vwCl (wR 157 ad (EX cs ad) mu) H1 := by rw [← hxi]; exact hP
    refine lv_istore (lv' := [(4, .int 0), (0, .ref (ad 0)), (1, .int vr), (2, .int vi), (3, .int vv)]) hx hb dX11_lay_6 hl (by decide) rfl (fun ls hl => ?_)
    refine lv_iload hx hb dX11_lay_8 (lv_at hl 0 rfl) ?_
    refine lv_if_eq (tgt := 16) hx hb dX11_lay_10 (by decide) (fun _ => ?_) (fun c => absurd (by decide) c)
    refine lv_aload_n hx hb dX11_lay_16 rfl (lv_at hl 1 rfl) ?_
    refine lv_aload_n hx hb dX11_lay_17 rfl (lv_at hl 1 rfl) ?_
    refine va_get (D := (dC, dI)) (ci := 11) (v := .ref (ad 1)) (C := RX11) (T := TX11) (N := 11) hx hb hts (fun w h => List.mem_cons_of_mem _ (inG11 w h)) hown hK hP 0 (gX_0 cs ad mu) rfl 0 (by decide) (hts (.fieldLink RX11 11 "DearLetters" "rows" "[LDearLetters$Row;") (List.mem_cons_of_mem _ (lg_at 2 158 (by decide +kernel) rfl))) (fun _ h9 => h9) rfl dX11_lay_18 ?_
    refine lv_iload_n hx hb dX11_lay_21 rfl (lv_at hl 2 rfl) ?_
    refine va_aldq hx hb hK hP 1 2 (gX_1 cs ad mu) rfl (show vp_in vr 6 from vi_of (by omega) (by omega)) dX11_lay_22 ?_
    have hvr_c := tC_of (v := vr) (by omega)
    refine lq_v (.ref (ad (8 + vr.toNatClampNeg))) rfl ?_
    refine va_get (D := (dC, dI)) (ci := 6) (v := .ref (ad ((8 + vr.toNatClampNeg) + 13))) (C := RX6) (T := TX6) (N := 2) hx hb hts (fun w h => List.mem_cons_of_mem _ (inG6 w h)) hown hK hP (8 + vr.toNatClampNeg) (gX_row cs ad mu (8 + vr.toNatClampNeg) (by omega) (by omega)) rfl 0 (by decide) (hts (.fieldLink RX11 85 "DearLetters$Row" "places" "[I") (List.mem_cons_of_mem _ (lg_at 2 130 (by decide +kernel) rfl))) (fun _ h9 => h9) rfl dX11_lay_23 ?_
    refine lv_iload_n hx hb dX11_lay_26 rfl (lv_at hl 3 rfl) ?_
    refine va_iald hx hb hK hP ((8 + vr.toNatClampNeg) + 13) 0 (gX_places cs ad mu ((8 + vr.toNatClampNeg) + 13) (by omega) (by omega)) rfl (show vp_in vi 40 from vi_of (by omega) (by omega)) dX11_lay_27 ?_
    refine lv_topi (fun y2 ey2 => ?_)
    have by2 : y2.toInt = (mu ((8 + vr.toNatClampNeg) + 13) vi.toNatClampNeg).toInt := congrArg Int32.toInt ey2
    refine va_put (D := (dC, dI)) (ci := 11) (v := .int y2) (ty := .int) (C := RX11) (T := TX11) (N := 11) hx hb hts (fun w h => List.mem_cons_of_mem _ (inG11 w h)) tyX11 tyX11_ok nmX11 hown hK hP (wR_D mu hD) hS 0 (gX_0 cs ad mu) rfl 10 (by decide) (hts (.fieldLink RX11 88 "DearLetters" "told" "I") (List.mem_cons_of_mem _ (lg_at 2 168 (by decide +kernel) rfl))) (fun _ h9 => h9) rfl (by decide +kernel) (by first | rfl | decide) (by first | rfl | decide) (Nat.le_of_ble_eq_true rfl) dX11_lay_28 (fun H locs hP _ hS => ?_)
    have hP := wR_P (upd (mu 0) 10 y2) hP (rfl)
    have ok := okR_up ok 0 10 y2 (by first | exact tI_lo _ | (unfold loX; simp (discharger := omega) only [if_pos, if_neg, and_true, true_and]; exact tI_lo _)) (by first | exact tI_hi _ | (unfold hiX; simp (discharger := omega) only [if_pos, if_neg, and_true, true_and]; exact tI_hi _))
    refine lv_aload_n hx hb dX11_lay_31 rfl (lv_at hl 1 rfl) ?_
    refine va_get (D := (dC, dI)) (ci := 11) (v := .ref (ad 1)) (C := RX11) (T := TX11) (N := 11) hx hb hts (fun w h => List.mem_cons_of_mem _ (inG11 w h)) hown hK hP 0 (gX_0 cs ad (va_up mu 0 (upd (mu 0) 10 y2))) rfl 0 (by decide) (hts (.fieldLink RX11 11 "DearLetters" "rows" "[LDearLetters$Row;") (List.mem_cons_of_mem _ (lg_at 2 158 (by decide +kernel) rfl))) (fun _ h9 => h9) rfl dX11_lay_32 ?_
    refine lv_iload_n hx hb dX11_lay_35 rfl (lv_at hl 2 rfl) ?_
    refine va_aldq hx hb hK hP 1 2 (gX_1 cs ad (va_up mu 0 (upd (mu 0) 10 y2))) rfl (show vp_in vr 6 from vi_of (by omega) (by omega)) dX11_lay_36 ?_
    have hvr_c := tC_of (v := vr) (by omega)
    refine lq_v (.ref (ad (8 + vr.toNatClampNeg))) rfl ?_
    refine va_get (D := (dC, dI)) (ci := 6) (v := .ref (ad ((8 + vr.toNatClampNeg) + 13))) (C := RX6) (T := TX6) (N := 2) hx hb hts (fun w h => List.mem_cons_of_mem _ (inG6 w h)) hown hK hP (8 + vr.toNatClampNeg) (gX_row cs ad (va_up mu 0 (upd (mu 0) 10 y2)) (8 + vr.toNatClampNeg) (by omega) (by omega)) rfl 0 (by decide) (hts (.fieldLink RX11 85 "DearLetters$Row" "places" "[I") (List.mem_cons_of_mem _ (lg_at 2 130 (by decide +kernel) rfl))) (fun _ h9 => h9) rfl dX11_lay_37 ?_
    refine lv_iload_n hx hb dX11_lay_40 rfl (lv_at hl 3 rfl) ?_
    refine lv_iload_n hx hb dX11_lay_41 rfl (lv_at hl 4 rfl) ?_
    refine va_iast hx hb hK hP (wR_D (va_up mu 0 (upd (mu 0) 10 y2)) hD) hS ((8 + vr.toNatClampNeg) + 13) 0 (gX_places cs ad (va_up mu 0 (upd (mu 0) 10 y2)) ((8 + vr.toNatClampNeg) + 13) (by omega) (by omega)) rfl (show vp_in vi 40 from vi_of (by omega) (by omega)) dX11_lay_42 (fun H locs hP _ hS => ?_)
    have hP := wR_P (upd ((va_up mu 0 (upd (mu 0) 10 y2)) ((8 + vr.toNatClampNeg) + 13)) vi.toNatClampNeg vv) hP (by first | rfl | (rw [EX_places cs ad _ _ (by omega) (by omega)]))
    have ok := okR_up ok ((8 + vr.toNatClampNeg) + 13) vi.toNatClampNeg vv (by first | exact tI_lo _ | (unfold loX; simp (discharger := omega) only [if_pos, if_neg, and_true, true_and]; exact tI_lo _)) (by first | exact tI_hi _ | (unfold hiX; simp (discharger := omega) only [if_pos, if_neg, and_true, true_and]; exact tI_hi _))
    refine lv_iconst (v := 1) hx hb dX11_lay_43 (by decide) ?_
    exact W.iret (v := 1) hx hb hr (fun t ht hW => ⟨⟨1, (va_up (va_up mu 0 (upd (mu 0) 10 y2)) ((8 + vr.toNatClampNeg) + 13) (upd ((va_up mu 0 (upd (mu 0) 10 y2)) ((8 + vr.toNatClampNeg) + 13)) vi.toNatClampNeg vv)), rfl, ⟨ok, trivial⟩, by first | (subst ht; exact hP) | (rw [ht]; exact hP) | (show va_P (dC, dI) vwCl (wR 157 ad (EX cs ad) (va_up (va_up mu 0 (upd (mu 0) 10 y2)) ((8 + vr.toNatClampNeg) + 13) (upd ((va_up mu 0 (upd (mu 0) 10 y2)) ((8 + vr.toNatClampNeg) + 13)) vi.toNatClampNeg vv))) t.heap; rw [ht]; exact hP)⟩, hS.F ht⟩) hS.2.2 dX11_lay_44
  · skip
    refine lv_istore (lv' := [(4, .int r1), (0, .ref (ad 0)), (1, .int vr), (2, .int vi), (3, .int vv)]) hx hb dX11_lay_6 hl (by decide) rfl (fun ls hl => ?_)
    refine lv_iload hx hb dX11_lay_8 (lv_at hl 0 rfl) ?_
    refine lv_if_eq (tgt := 16) hx hb dX11_lay_10 (by decide) (fun c_3 => by have c_3 : r1.toInt = 0 := il_eq c_3; exfalso; omega) (fun c_3 => ?_)
    have c_3 : ¬ r1.toInt = 0 := il_ne c_3
    refine lv_iload hx hb dX11_lay_13 (lv_at hl 0 rfl) ?_
    exact W.iret (v := r1) hx hb hr (fun t ht hW => ⟨⟨r1, xi1, rfl, ⟨ok, trivial⟩, by first | (subst ht; exact hP) | (rw [ht]; exact hP) | (show va_P (dC, dI) vwCl (wR 157 ad (EX cs ad) xi1) t.heap; rw [ht]; exact hP)⟩, hS.F ht⟩) hS.2.2 dX11_lay_15
theorem dX11_at_0 : decode cX11_at 0 = .ok (.aload_n 0, 1) := by decide +kernel
theorem dX11_at_1 : decode cX11_at 1 = .ok (.iload_n 1, 1) := by decide +kernel
theorem dX11_at_2 : decode cX11_at 2 = .ok (.iload_n 2, 1) := by decide +kernel
theorem dX11_at_3 : decode cX11_at 3 = .ok (.invokevirtual 81, 3) := by decide +kernel
theorem dX11_at_6 : decode cX11_at 6 = .ok (.istore_n 3, 1) := by decide +kernel
theorem dX11_at_7 : decode cX11_at 7 = .ok (.iload_n 3, 1) := by decide +kernel
theorem dX11_at_8 : decode cX11_at 8 = .ok (.ifCond .eq 5, 3) := by decide +kernel
theorem dX11_at_13 : decode cX11_at 13 = .ok (.aload_n 0, 1) := by decide +kernel
theorem dX11_at_14 : decode cX11_at 14 = .ok (.aload_n 0, 1) := by decide +kernel
theorem dX11_at_15 : decode cX11_at 15 = .ok (.getfield 11, 3) := by decide +kernel
theorem dX11_at_18 : decode cX11_at 18 = .ok (.iload_n 1, 1) := by decide +kernel
theorem dX11_at_19 : decode cX11_at 19 = .ok (.aaload, 1) := by decide +kernel
theorem dX11_at_20 : decode cX11_at 20 = .ok (.getfield 85, 3) := by decide +kernel
theorem dX11_at_23 : decode cX11_at 23 = .ok (.iload_n 2, 1) := by decide +kernel
theorem dX11_at_24 : decode cX11_at 24 = .ok (.iaload, 1) := by decide +kernel
theorem dX11_at_25 : decode cX11_at 25 = .ok (.putfield 88, 3) := by decide +kernel
theorem dX11_at_28 : decode cX11_at 28 = .ok (.iconst 1, 1) := by decide +kernel
theorem dX11_at_29 : decode cX11_at 29 = .ok (.ireturn, 1) := by decide +kernel
theorem dX11_at_11 : decode cX11_at 11 = .ok (.iload_n 3, 1) := by decide +kernel
theorem dX11_at_12 : decode cX11_at 12 = .ok (.ireturn, 1) := by decide +kernel
set_option maxHeartbeats 4000000 in
set_option maxRecDepth 100000 in
/-- qx_at -/
theorem qx_at (l : Launch) (dC : Nat → ClassId) (dI : Nat → Nat → Nat) (cs : Nat → ClassId) (ad : Nat → Nat) (mu : Nat → Nat → Int32) (ok : okR loX hiX mu) (H : Heap) (hP : va_P (dC, dI) vwCl (wR 157 ad (EX cs ad) mu) H) (hD0 : va_D (fun _ => True) (wR 157 ad (EX cs ad) mu)) (vr : Int32) (vi : Int32) : Met l yX11_at (wU yX11_at cX11_at 4 (some .int)) ({ frames := 3, cells := 0, slots := 0, locals := 65 }) (va_Pc [.ref (ad 0), .int vr, .int vi] (sz_P (dC, dI) vwCl (tyW cs) H)) (va_Qi (fun (z : Int32) (xi : Nat → Nat → Int32) => okR loX hiX xi ∧ True) (fun xi t => va_P (dC, dI) vwCl (wR 157 ad (EX cs ad) xi) t.heap) (va_A (wR 157 ad (EX cs ad) mu) H.size)) 0 0 (va_A (wR 157 ad (EX cs ad) mu) H.size) := by
  refine Met.ofW (cc := cX11_at) (maxL := 4) (ret := (some .int)) (by decide) rfl ?_
  intro p e s m args below meth c s₁ B hml hv
  obtain ⟨rfl, hh, hK, hz⟩ := hv
  have hx := B.exec
  have hb := B.bytes
  have hr := B.returns
  have hts := atoms_spec (ws := (wU yX11_at cX11_at 4 (some .int))) B.pre
  have hown : s.vm.findClass RX11 = some m.cls := findClass_of_methodNamed B.named
  have hlocks := B.notSynchronized
  subst hh
  have hD := hD0.self (sz := s.heap.size)
  have hA : ∀ q : Nat, s.heap.size ≤ q → (va_A (wR 157 ad (EX cs ad) mu) s.heap.size) q := fun q h => Or.inr h
  have hS : va_S (va_A (wR 157 ad (EX cs ad) mu) s.heap.size) s.heap s.heap [] := va_S.rf
  have hl := lv_entry ([.ref (ad 0), .int vr, .int vi]) (n := 4) (Nat.le_of_ble_eq_true rfl)
  rw [lg_entry_eq]
  generalize (lg_sl ([.ref (ad 0), .int vr, .int vi]) ++ List.replicate (4 - (lg_sl ([.ref (ad 0), .int vr, .int vi])).length) Slot.unset).toArray = ls at hl ⊢
  have hl : lv_has ls 4 [(0, .ref (ad 0)), (1, .int vr), (2, .int vi)] := hl
  refine lv_aload_n hx hb dX11_at_0 rfl (lv_at hl 0 rfl) ?_
  refine lv_iload_n hx hb dX11_at_1 rfl (lv_at hl 1 rfl) ?_
  refine lv_iload_n hx hb dX11_at_2 rfl (lv_at hl 2 rfl) ?_
  have hFc := fr_all (wR_D mu hD) hS hA
  refine va_calli (va_runV (As := [.int vr, .int vi]) (rest := []) ⟨hx, hb, hml, hown, hts⟩ (sx_refusedPlace l dC dI cs ad mu ok s.heap hP ((wR_D mu hD).weaken (fun _ _ _ _ => trivial)) vr vi) (cwV 2 hts (wU_V (lg_at 2 217 (by decide +kernel) rfl) (lg_at 2 214 (by decide +kernel) rfl) (lg_at 2 216 (by decide +kernel) rfl) (lg_at 0 1 (by decide +kernel) rfl) (lg_at 1 1 (by decide +kernel) rfl)) rfl rfl rfl (by decide +kernel) ⟨Nat.le_of_ble_eq_true rfl, Nat.le_of_ble_eq_true rfl⟩) ⟨sz_c, va_recv hK hP (ci := 11) (q0 := 0) rfl (gX_0 cs ad mu), sz_m hK hz⟩ rfl rfl hl.1 rfl (lv_room (Nat.le_of_ble_eq_true rfl)) dX11_at_3 ⟨Nat.zero_le _, Nat.zero_le _⟩) hS (fun q _ h => hFc q h) hFc (fun r1 xi1 t H1 locs ht hvm hw1 hB hz1 hk1 hS => ?_)
  have hP : va_P (dC, dI) vwCl (wR 157 ad (EX cs ad) xi1) H1 := by rw [← ht]; exact hB
  rcases hw1 with ⟨rfl, hxi, f1⟩ | ⟨z1, ok⟩
  · have hP : va_P (dC, dI) vwCl (wR 157 ad (EX cs ad) mu) H1 := by rw [← hxi]; exact hP
    refine lv_istore_n (lv' := [(3, .int 0), (0, .ref (ad 0)), (1, .int vr), (2, .int vi)]) hx hb dX11_at_6 rfl hl (by decide) rfl (fun ls hl => ?_)
    refine lv_iload_n hx hb dX11_at_7 rfl (lv_at hl 0 rfl) ?_
    refine lv_if_eq (tgt := 13) hx hb dX11_at_8 (by decide) (fun _ => ?_) (fun c => absurd (by decide) c)
    refine lv_aload_n hx hb dX11_at_13 rfl (lv_at hl 1 rfl) ?_
    refine lv_aload_n hx hb dX11_at_14 rfl (lv_at hl 1 rfl) ?_
    refine va_get (D := (dC, dI)) (ci := 11) (v := .ref (ad 1)) (C := RX11) (T := TX11) (N := 11) hx hb hts (fun w h => List.mem_cons_of_mem _ (inG11 w h)) hown hK hP 0 (gX_0 cs ad mu) rfl 0 (by decide) (hts (.fieldLink RX11 11 "DearLetters" "rows" "[LDearLetters$Row;") (List.mem_cons_of_mem _ (lg_at 2 158 (by decide +kernel) rfl))) (fun _ h9 => h9) rfl dX11_at_15 ?_
    refine lv_iload_n hx hb dX11_at_18 rfl (lv_at hl 2 rfl) ?_
    refine va_aldq hx hb hK hP 1 2 (gX_1 cs ad mu) rfl (show vp_in vr 6 from vi_of (by omega) (by omega)) dX11_at_19 ?_
    have hvr_c := tC_of (v := vr) (by omega)
    refine lq_v (.ref (ad (8 + vr.toNatClampNeg))) rfl ?_
    refine va_get (D := (dC, dI)) (ci := 6) (v := .ref (ad ((8 + vr.toNatClampNeg) + 13))) (C := RX6) (T := TX6) (N := 2) hx hb hts (fun w h => List.mem_cons_of_mem _ (inG6 w h)) hown hK hP (8 + vr.toNatClampNeg) (gX_row cs ad mu (8 + vr.toNatClampNeg) (by omega) (by omega)) rfl 0 (by decide) (hts (.fieldLink RX11 85 "DearLetters$Row" "places" "[I") (List.mem_cons_of_mem _ (lg_at 2 130 (by decide +kernel) rfl))) (fun _ h9 => h9) rfl dX11_at_20 ?_
    refine lv_iload_n hx hb dX11_at_23 rfl (lv_at hl 3 rfl) ?_
    refine va_iald hx hb hK hP ((8 + vr.toNatClampNeg) + 13) 0 (gX_places cs ad mu ((8 + vr.toNatClampNeg) + 13) (by omega) (by omega)) rfl (show vp_in vi 40 from vi_of (by omega) (by omega)) dX11_at_24 ?_
    refine lv_topi (fun y2 ey2 => ?_)
    have by2 : y2.toInt = (mu ((8 + vr.toNatClampNeg) + 13) vi.toNatClampNeg).toInt := congrArg Int32.toInt ey2
    refine va_put (D := (dC, dI)) (ci := 11) (v := .int y2) (ty := .int) (C := RX11) (T := TX11) (N := 11) hx hb hts (fun w h => List.mem_cons_of_mem _ (inG11 w h)) tyX11 tyX11_ok nmX11 hown hK hP (wR_D mu hD) hS 0 (gX_0 cs ad mu) rfl 10 (by decide) (hts (.fieldLink RX11 88 "DearLetters" "told" "I") (List.mem_cons_of_mem _ (lg_at 2 168 (by decide +kernel) rfl))) (fun _ h9 => h9) rfl (by decide +kernel) (by first | rfl | decide) (by first | rfl | decide) (Nat.le_of_ble_eq_true rfl) dX11_at_25 (fun H locs hP _ hS => ?_)
    have hP := wR_P (upd (mu 0) 10 y2) hP (rfl)
    have ok := okR_up ok 0 10 y2 (by first | exact tI_lo _ | (unfold loX; simp (discharger := omega) only [if_pos, if_neg, and_true, true_and]; exact tI_lo _)) (by first | exact tI_hi _ | (unfold hiX; simp (discharger := omega) only [if_pos, if_neg, and_true, true_and]; exact tI_hi _))
    refine lv_iconst (v := 1) hx hb dX11_at_28 (by decide) ?_
    exact W.iret (v := 1) hx hb hr (fun t ht hW => ⟨⟨1, (va_up mu 0 (upd (mu 0) 10 y2)), rfl, ⟨ok, trivial⟩, by first | (subst ht; exact hP) | (rw [ht]; exact hP) | (show va_P (dC, dI) vwCl (wR 157 ad (EX cs ad) (va_up mu 0 (upd (mu 0) 10 y2))) t.heap; rw [ht]; exact hP)⟩, hS.F ht⟩) hS.2.2 dX11_at_29
  · skip
    refine lv_istore_n (lv' := [(3, .int r1), (0, .ref (ad 0)), (1, .int vr), (2, .int vi)]) hx hb dX11_at_6 rfl hl (by decide) rfl (fun ls hl => ?_)
    refine lv_iload_n hx hb dX11_at_7 rfl (lv_at hl 0 rfl) ?_
    refine lv_if_eq (tgt := 13) hx hb dX11_at_8 (by decide) (fun c_3 => by have c_3 : r1.toInt = 0 := il_eq c_3; exfalso; omega) (fun c_3 => ?_)
    have c_3 : ¬ r1.toInt = 0 := il_ne c_3
    refine lv_iload_n hx hb dX11_at_11 rfl (lv_at hl 0 rfl) ?_
    exact W.iret (v := r1) hx hb hr (fun t ht hW => ⟨⟨r1, xi1, rfl, ⟨ok, trivial⟩, by first | (subst ht; exact hP) | (rw [ht]; exact hP) | (show va_P (dC, dI) vwCl (wR 157 ad (EX cs ad) xi1) t.heap; rw [ht]; exact hP)⟩, hS.F ht⟩) hS.2.2 dX11_at_12
theorem dX11_tear_0 : decode cX11_tear 0 = .ok (.aload_n 0, 1) := by decide +kernel
theorem dX11_tear_1 : decode cX11_tear 1 = .ok (.iload_n 1, 1) := by decide +kernel
theorem dX11_tear_2 : decode cX11_tear 2 = .ok (.invokevirtual 92, 3) := by decide +kernel
theorem dX11_tear_5 : decode cX11_tear 5 = .ok (.istore_n 2, 1) := by decide +kernel
theorem dX11_tear_6 : decode cX11_tear 6 = .ok (.iload_n 2, 1) := by decide +kernel
theorem dX11_tear_7 : decode cX11_tear 7 = .ok (.ifCond .eq 5, 3) := by decide +kernel
theorem dX11_tear_12 : decode cX11_tear 12 = .ok (.aload_n 0, 1) := by decide +kernel
theorem dX11_tear_13 : decode cX11_tear 13 = .ok (.getfield 11, 3) := by decide +kernel
theorem dX11_tear_16 : decode cX11_tear 16 = .ok (.iload_n 1, 1) := by decide +kernel
theorem dX11_tear_17 : decode cX11_tear 17 = .ok (.aaload, 1) := by decide +kernel
theorem dX11_tear_18 : decode cX11_tear 18 = .ok (.iconst (-1), 1) := by decide +kernel
theorem dX11_tear_19 : decode cX11_tear 19 = .ok (.putfield 95, 3) := by decide +kernel
theorem dX11_tear_22 : decode cX11_tear 22 = .ok (.iconst 1, 1) := by decide +kernel
theorem dX11_tear_23 : decode cX11_tear 23 = .ok (.ireturn, 1) := by decide +kernel
theorem dX11_tear_10 : decode cX11_tear 10 = .ok (.iload_n 2, 1) := by decide +kernel
theorem dX11_tear_11 : decode cX11_tear 11 = .ok (.ireturn, 1) := by decide +kernel
set_option maxHeartbeats 4000000 in
set_option maxRecDepth 100000 in
/-- qx_tear -/
theorem qx_tear (l : Launch) (dC : Nat → ClassId) (dI : Nat → Nat → Nat) (cs : Nat → ClassId) (ad : Nat → Nat) (mu : Nat → Nat → Int32) (ok : okR loX hiX mu) (H : Heap) (hP : va_P (dC, dI) vwCl (wR 157 ad (EX cs ad) mu) H) (hD0 : va_D (fun _ => True) (wR 157 ad (EX cs ad) mu)) (vr : Int32) : Met l yX11_tear (wU yX11_tear cX11_tear 3 (some .int)) ({ frames := 2, cells := 0, slots := 0, locals := 42 }) (va_Pc [.ref (ad 0), .int vr] (sz_P (dC, dI) vwCl (tyW cs) H)) (va_Qi (fun (z : Int32) (xi : Nat → Nat → Int32) => okR loX hiX xi ∧ True) (fun xi t => va_P (dC, dI) vwCl (wR 157 ad (EX cs ad) xi) t.heap) (va_A (wR 157 ad (EX cs ad) mu) H.size)) 0 0 (va_A (wR 157 ad (EX cs ad) mu) H.size) := by
  refine Met.ofW (cc := cX11_tear) (maxL := 3) (ret := (some .int)) (by decide) rfl ?_
  intro p e s m args below meth c s₁ B hml hv
  obtain ⟨rfl, hh, hK, hz⟩ := hv
  have hx := B.exec
  have hb := B.bytes
  have hr := B.returns
  have hts := atoms_spec (ws := (wU yX11_tear cX11_tear 3 (some .int))) B.pre
  have hown : s.vm.findClass RX11 = some m.cls := findClass_of_methodNamed B.named
  have hlocks := B.notSynchronized
  subst hh
  have hD := hD0.self (sz := s.heap.size)
  have hA : ∀ q : Nat, s.heap.size ≤ q → (va_A (wR 157 ad (EX cs ad) mu) s.heap.size) q := fun q h => Or.inr h
  have hS : va_S (va_A (wR 157 ad (EX cs ad) mu) s.heap.size) s.heap s.heap [] := va_S.rf
  have hl := lv_entry ([.ref (ad 0), .int vr]) (n := 3) (Nat.le_of_ble_eq_true rfl)
  rw [lg_entry_eq]
  generalize (lg_sl ([.ref (ad 0), .int vr]) ++ List.replicate (3 - (lg_sl ([.ref (ad 0), .int vr])).length) Slot.unset).toArray = ls at hl ⊢
  have hl : lv_has ls 3 [(0, .ref (ad 0)), (1, .int vr)] := hl
  refine lv_aload_n hx hb dX11_tear_0 rfl (lv_at hl 0 rfl) ?_
  refine lv_iload_n hx hb dX11_tear_1 rfl (lv_at hl 1 rfl) ?_
  have hFc := fr_all (wR_D mu hD) hS hA
  refine va_calli (va_runV (As := [.int vr]) (rest := []) ⟨hx, hb, hml, hown, hts⟩ (sx_refusedRow l dC dI cs ad mu ok s.heap hP ((wR_D mu hD).weaken (fun _ _ _ _ => trivial)) vr) (cwV 1 hts (wU_V (lg_at 2 221 (by decide +kernel) rfl) (lg_at 2 218 (by decide +kernel) rfl) (lg_at 2 220 (by decide +kernel) rfl) (lg_at 0 2 (by decide +kernel) rfl) (lg_at 1 1 (by decide +kernel) rfl)) rfl rfl rfl (by decide +kernel) ⟨Nat.le_of_ble_eq_true rfl, Nat.le_of_ble_eq_true rfl⟩) ⟨sz_c, va_recv hK hP (ci := 11) (q0 := 0) rfl (gX_0 cs ad mu), sz_m hK hz⟩ rfl rfl hl.1 rfl (lv_room (Nat.le_of_ble_eq_true rfl)) dX11_tear_2 ⟨Nat.zero_le _, Nat.zero_le _⟩) hS (fun q _ h => hFc q h) hFc (fun r1 xi1 t H1 locs ht hvm hw1 hB hz1 hk1 hS => ?_)
  have hP : va_P (dC, dI) vwCl (wR 157 ad (EX cs ad) xi1) H1 := by rw [← ht]; exact hB
  rcases hw1 with ⟨rfl, hxi, f1⟩ | ⟨z1, ok⟩
  · have hP : va_P (dC, dI) vwCl (wR 157 ad (EX cs ad) mu) H1 := by rw [← hxi]; exact hP
    refine lv_istore_n (lv' := [(2, .int 0), (0, .ref (ad 0)), (1, .int vr)]) hx hb dX11_tear_5 rfl hl (by decide) rfl (fun ls hl => ?_)
    refine lv_iload_n hx hb dX11_tear_6 rfl (lv_at hl 0 rfl) ?_
    refine lv_if_eq (tgt := 12) hx hb dX11_tear_7 (by decide) (fun _ => ?_) (fun c => absurd (by decide) c)
    refine lv_aload_n hx hb dX11_tear_12 rfl (lv_at hl 1 rfl) ?_
    refine va_get (D := (dC, dI)) (ci := 11) (v := .ref (ad 1)) (C := RX11) (T := TX11) (N := 11) hx hb hts (fun w h => List.mem_cons_of_mem _ (inG11 w h)) hown hK hP 0 (gX_0 cs ad mu) rfl 0 (by decide) (hts (.fieldLink RX11 11 "DearLetters" "rows" "[LDearLetters$Row;") (List.mem_cons_of_mem _ (lg_at 2 158 (by decide +kernel) rfl))) (fun _ h9 => h9) rfl dX11_tear_13 ?_
    refine lv_iload_n hx hb dX11_tear_16 rfl (lv_at hl 2 rfl) ?_
    refine va_aldq hx hb hK hP 1 2 (gX_1 cs ad mu) rfl (show vp_in vr 6 from vi_of (by omega) (by omega)) dX11_tear_17 ?_
    have hvr_c := tC_of (v := vr) (by omega)
    refine lq_v (.ref (ad (8 + vr.toNatClampNeg))) rfl ?_
    refine lv_iconst (v := (-1)) hx hb dX11_tear_18 (by decide) ?_
    refine va_put (D := (dC, dI)) (ci := 6) (v := .int (-1)) (ty := .int) (C := RX6) (T := TX6) (N := 2) hx hb hts (fun w h => List.mem_cons_of_mem _ (inG6 w h)) tyX6 tyX6_ok nmX6 hown hK hP (wR_D mu hD) hS (8 + vr.toNatClampNeg) (gX_row cs ad mu (8 + vr.toNatClampNeg) (by omega) (by omega)) rfl 1 (by decide) (hts (.fieldLink RX11 95 "DearLetters$Row" "size" "I") (List.mem_cons_of_mem _ (lg_at 2 134 (by decide +kernel) rfl))) (fun _ h9 => h9) rfl (by decide +kernel) (by first | rfl | decide) (by first | rfl | decide) (Nat.le_of_ble_eq_true rfl) dX11_tear_19 (fun H locs hP _ hS => ?_)
    have hP := wR_P (upd (mu (8 + vr.toNatClampNeg)) 1 (-1)) hP (by first | rfl | (rw [EX_row cs ad _ _ (by omega) (by omega)]; rfl))
    have ok := okR_up ok (8 + vr.toNatClampNeg) 1 (-1) (by have h9 : ((-1) : Int32).toInt = -1 := rfl; unfold loX; simp (discharger := omega) only [if_pos, if_neg, and_true, true_and]; omega) (by have h9 : ((-1) : Int32).toInt = -1 := rfl; unfold hiX; simp (discharger := omega) only [if_pos, if_neg, and_true, true_and]; omega)
    refine lv_iconst (v := 1) hx hb dX11_tear_22 (by decide) ?_
    exact W.iret (v := 1) hx hb hr (fun t ht hW => ⟨⟨1, (va_up mu (8 + vr.toNatClampNeg) (upd (mu (8 + vr.toNatClampNeg)) 1 (-1))), rfl, ⟨ok, trivial⟩, by first | (subst ht; exact hP) | (rw [ht]; exact hP) | (show va_P (dC, dI) vwCl (wR 157 ad (EX cs ad) (va_up mu (8 + vr.toNatClampNeg) (upd (mu (8 + vr.toNatClampNeg)) 1 (-1)))) t.heap; rw [ht]; exact hP)⟩, hS.F ht⟩) hS.2.2 dX11_tear_23
  · skip
    refine lv_istore_n (lv' := [(2, .int r1), (0, .ref (ad 0)), (1, .int vr)]) hx hb dX11_tear_5 rfl hl (by decide) rfl (fun ls hl => ?_)
    refine lv_iload_n hx hb dX11_tear_6 rfl (lv_at hl 0 rfl) ?_
    refine lv_if_eq (tgt := 12) hx hb dX11_tear_7 (by decide) (fun c_2 => by have c_2 : r1.toInt = 0 := il_eq c_2; exfalso; omega) (fun c_2 => ?_)
    have c_2 : ¬ r1.toInt = 0 := il_ne c_2
    refine lv_iload_n hx hb dX11_tear_10 rfl (lv_at hl 0 rfl) ?_
    exact W.iret (v := r1) hx hb hr (fun t ht hW => ⟨⟨r1, xi1, rfl, ⟨ok, trivial⟩, by first | (subst ht; exact hP) | (rw [ht]; exact hP) | (show va_P (dC, dI) vwCl (wR 157 ad (EX cs ad) xi1) t.heap; rw [ht]; exact hP)⟩, hS.F ht⟩) hS.2.2 dX11_tear_11
theorem dX11_put_0 : decode cX11_put 0 = .ok (.aload_n 0, 1) := by decide +kernel
theorem dX11_put_1 : decode cX11_put 1 = .ok (.iload_n 1, 1) := by decide +kernel
theorem dX11_put_2 : decode cX11_put 2 = .ok (.invokevirtual 118, 3) := by decide +kernel
theorem dX11_put_5 : decode cX11_put 5 = .ok (.istore 4, 2) := by decide +kernel
theorem dX11_put_7 : decode cX11_put 7 = .ok (.iload 4, 2) := by decide +kernel
theorem dX11_put_9 : decode cX11_put 9 = .ok (.ifCond .eq 6, 3) := by decide +kernel
theorem dX11_put_15 : decode cX11_put 15 = .ok (.iload_n 2, 1) := by decide +kernel
theorem dX11_put_16 : decode cX11_put 16 = .ok (.ifCond .lt 16, 3) := by decide +kernel
theorem dX11_put_32 : decode cX11_put 32 = .ok (.aload_n 0, 1) := by decide +kernel
theorem dX11_put_33 : decode cX11_put 33 = .ok (.iconst 2, 1) := by decide +kernel
theorem dX11_put_34 : decode cX11_put 34 = .ok (.invokevirtual 73, 3) := by decide +kernel
theorem dX11_put_37 : decode cX11_put 37 = .ok (.ireturn, 1) := by decide +kernel
theorem dX11_put_19 : decode cX11_put 19 = .ok (.iload_n 2, 1) := by decide +kernel
theorem dX11_put_20 : decode cX11_put 20 = .ok (.aload_n 0, 1) := by decide +kernel
theorem dX11_put_21 : decode cX11_put 21 = .ok (.getfield 17, 3) := by decide +kernel
theorem dX11_put_24 : decode cX11_put 24 = .ok (.iload_n 1, 1) := by decide +kernel
theorem dX11_put_25 : decode cX11_put 25 = .ok (.aaload, 1) := by decide +kernel
theorem dX11_put_26 : decode cX11_put 26 = .ok (.getfield 121, 3) := by decide +kernel
theorem dX11_put_29 : decode cX11_put 29 = .ok (.if_icmp .lt 9, 3) := by decide +kernel
theorem dX11_put_38 : decode cX11_put 38 = .ok (.aload_n 0, 1) := by decide +kernel
theorem dX11_put_39 : decode cX11_put 39 = .ok (.getfield 17, 3) := by decide +kernel
theorem dX11_put_42 : decode cX11_put 42 = .ok (.iload_n 1, 1) := by decide +kernel
theorem dX11_put_43 : decode cX11_put 43 = .ok (.aaload, 1) := by decide +kernel
theorem dX11_put_44 : decode cX11_put 44 = .ok (.getfield 122, 3) := by decide +kernel
theorem dX11_put_47 : decode cX11_put 47 = .ok (.iload_n 2, 1) := by decide +kernel
theorem dX11_put_48 : decode cX11_put 48 = .ok (.baload, 1) := by decide +kernel
theorem dX11_put_49 : decode cX11_put 49 = .ok (.istore 5, 2) := by decide +kernel
theorem dX11_put_51 : decode cX11_put 51 = .ok (.aload_n 0, 1) := by decide +kernel
theorem dX11_put_52 : decode cX11_put 52 = .ok (.getfield 17, 3) := by decide +kernel
theorem dX11_put_55 : decode cX11_put 55 = .ok (.iload_n 1, 1) := by decide +kernel
theorem dX11_put_56 : decode cX11_put 56 = .ok (.aaload, 1) := by decide +kernel
theorem dX11_put_57 : decode cX11_put 57 = .ok (.getfield 122, 3) := by decide +kernel
theorem dX11_put_60 : decode cX11_put 60 = .ok (.iload_n 2, 1) := by decide +kernel
theorem dX11_put_61 : decode cX11_put 61 = .ok (.iload_n 3, 1) := by decide +kernel
theorem dX11_put_62 : decode cX11_put 62 = .ok (.i2b, 1) := by decide +kernel
theorem dX11_put_63 : decode cX11_put 63 = .ok (.bastore, 1) := by decide +kernel
theorem dX11_put_64 : decode cX11_put 64 = .ok (.iload 5, 2) := by decide +kernel
theorem dX11_put_66 : decode cX11_put 66 = .ok (.sipush 1000, 3) := by decide +kernel
theorem dX11_put_69 : decode cX11_put 69 = .ok (.iadd, 1) := by decide +kernel
theorem dX11_put_70 : decode cX11_put 70 = .ok (.ireturn, 1) := by decide +kernel
theorem dX11_put_12 : decode cX11_put 12 = .ok (.iload 4, 2) := by decide +kernel
theorem dX11_put_14 : decode cX11_put 14 = .ok (.ireturn, 1) := by decide +kernel
set_option maxHeartbeats 4000000 in
set_option maxRecDepth 100000 in
/-- qx_put -/
theorem qx_put (l : Launch) (dC : Nat → ClassId) (dI : Nat → Nat → Nat) (cs : Nat → ClassId) (ad : Nat → Nat) (mu : Nat → Nat → Int32) (ok : okR loX hiX mu) (H : Heap) (hP : va_P (dC, dI) vwCl (wR 157 ad (EX cs ad) mu) H) (hD0 : va_D (fun _ => True) (wR 157 ad (EX cs ad) mu)) (vt : Int32) (vi : Int32) (vv : Int32) : Met l yX11_put (wU yX11_put cX11_put 6 (some .int)) ({ frames := 2, cells := 0, slots := 0, locals := 42 }) (va_Pc [.ref (ad 0), .int vt, .int vi, .int vv] (sz_P (dC, dI) vwCl (tyW cs) H)) (va_Qi (fun (z : Int32) (xi : Nat → Nat → Int32) => okR loX hiX xi ∧ True) (fun xi t => va_P (dC, dI) vwCl (wR 157 ad (EX cs ad) xi) t.heap) (va_A (wR 157 ad (EX cs ad) mu) H.size)) 0 0 (va_A (wR 157 ad (EX cs ad) mu) H.size) := by
  refine Met.ofW (cc := cX11_put) (maxL := 6) (ret := (some .int)) (by decide) rfl ?_
  intro p e s m args below meth c s₁ B hml hv
  obtain ⟨rfl, hh, hK, hz⟩ := hv
  have hx := B.exec
  have hb := B.bytes
  have hr := B.returns
  have hts := atoms_spec (ws := (wU yX11_put cX11_put 6 (some .int))) B.pre
  have hown : s.vm.findClass RX11 = some m.cls := findClass_of_methodNamed B.named
  have hlocks := B.notSynchronized
  subst hh
  have hD := hD0.self (sz := s.heap.size)
  have hA : ∀ q : Nat, s.heap.size ≤ q → (va_A (wR 157 ad (EX cs ad) mu) s.heap.size) q := fun q h => Or.inr h
  have hS : va_S (va_A (wR 157 ad (EX cs ad) mu) s.heap.size) s.heap s.heap [] := va_S.rf
  have hl := lv_entry ([.ref (ad 0), .int vt, .int vi, .int vv]) (n := 6) (Nat.le_of_ble_eq_true rfl)
  rw [lg_entry_eq]
  generalize (lg_sl ([.ref (ad 0), .int vt, .int vi, .int vv]) ++ List.replicate (6 - (lg_sl ([.ref (ad 0), .int vt, .int vi, .int vv])).length) Slot.unset).toArray = ls at hl ⊢
  have hl : lv_has ls 6 [(0, .ref (ad 0)), (1, .int vt), (2, .int vi), (3, .int vv)] := hl
  refine lv_aload_n hx hb dX11_put_0 rfl (lv_at hl 0 rfl) ?_
  refine lv_iload_n hx hb dX11_put_1 rfl (lv_at hl 1 rfl) ?_
  have hFc := fr_all (wR_D mu hD) hS hA
  refine va_calli (va_runV (As := [.int vt]) (rest := []) ⟨hx, hb, hml, hown, hts⟩ (sx_refusedText l dC dI cs ad mu ok s.heap hP ((wR_D mu hD).weaken (fun _ _ _ _ => trivial)) vt) (cwV 1 hts (wU_V (lg_at 3 30 (by decide +kernel) rfl) (lg_at 3 27 (by decide +kernel) rfl) (lg_at 3 29 (by decide +kernel) rfl) (lg_at 0 3 (by decide +kernel) rfl) (lg_at 1 1 (by decide +kernel) rfl)) rfl rfl rfl (by decide +kernel) ⟨Nat.le_of_ble_eq_true rfl, Nat.le_of_ble_eq_true rfl⟩) ⟨sz_c, va_recv hK hP (ci := 11) (q0 := 0) rfl (gX_0 cs ad mu), sz_m hK hz⟩ rfl rfl hl.1 rfl (lv_room (Nat.le_of_ble_eq_true rfl)) dX11_put_2 ⟨Nat.zero_le _, Nat.zero_le _⟩) hS (fun q _ h => hFc q h) hFc (fun r1 xi1 t H1 locs ht hvm hw1 hB hz1 hk1 hS => ?_)
  have hP : va_P (dC, dI) vwCl (wR 157 ad (EX cs ad) xi1) H1 := by rw [← ht]; exact hB
  rcases hw1 with ⟨rfl, hxi, f1⟩ | ⟨z1, ok⟩
  · have hP : va_P (dC, dI) vwCl (wR 157 ad (EX cs ad) mu) H1 := by rw [← hxi]; exact hP
    refine lv_istore (lv' := [(4, .int 0), (0, .ref (ad 0)), (1, .int vt), (2, .int vi), (3, .int vv)]) hx hb dX11_put_5 hl (by decide) rfl (fun ls hl => ?_)
    refine lv_iload hx hb dX11_put_7 (lv_at hl 0 rfl) ?_
    refine lv_if_eq (tgt := 15) hx hb dX11_put_9 (by decide) (fun _ => ?_) (fun c => absurd (by decide) c)
    refine lv_iload_n hx hb dX11_put_15 rfl (lv_at hl 3 rfl) ?_
    refine lv_if_lt (tgt := 32) hx hb dX11_put_16 (by decide) (fun c_2 => ?_) (fun c_2 => ?_)
    · have c_2 : vi.toInt < 0 := il_lt c_2
      refine lv_aload_n hx hb dX11_put_32 rfl (lv_at hl 1 rfl) ?_
      refine lv_iconst (v := 2) hx hb dX11_put_33 (by decide) ?_
      have hFc := fr_all (wR_D mu hD) hS hA
      refine va_calli (va_runV (As := [.int 2]) (rest := []) ⟨hx, hb, hml, hown, hts⟩ (sx_found l dC dI cs ad mu ok H1 hP ((wR_D mu hD).weaken (fun _ _ _ _ => trivial)) 2 (by decide)) (cwV 1 hts (wU_V (lg_at 2 202 (by decide +kernel) rfl) (lg_at 2 199 (by decide +kernel) rfl) (lg_at 2 201 (by decide +kernel) rfl) (lg_at 0 0 (by decide +kernel) rfl) (lg_at 1 1 (by decide +kernel) rfl)) rfl rfl rfl (by decide +kernel) ⟨Nat.le_of_ble_eq_true rfl, Nat.le_of_ble_eq_true rfl⟩) ⟨sz_c, va_recv hK hP (ci := 11) (q0 := 0) rfl (gX_0 cs ad mu), sz_m hK hz⟩ rfl rfl hl.1 rfl (lv_room (Nat.le_of_ble_eq_true rfl)) dX11_put_34 ⟨Nat.zero_le _, Nat.zero_le _⟩) hS (fun q _ h => hFc q h) hFc (fun r3 xi3 t H3 locs ht hvm hw3 hB hz1 hk1 hS => ?_)
      obtain ⟨ok, hw3⟩ := hw3
      have hP : va_P (dC, dI) vwCl (wR 157 ad (EX cs ad) xi3) H3 := by rw [← ht]; exact hB
      have gr3 : -3 ≤ r3.toInt ∧ r3.toInt ≤ -3 := hw3
      exact W.iret (v := r3) hx hb hr (fun t ht hW => ⟨⟨r3, xi3, rfl, ⟨ok, trivial⟩, by first | (subst ht; exact hP) | (rw [ht]; exact hP) | (show va_P (dC, dI) vwCl (wR 157 ad (EX cs ad) xi3) t.heap; rw [ht]; exact hP)⟩, hS.F ht⟩) hS.2.2 dX11_put_37
    · have c_2 : 0 ≤ vi.toInt := il_nlt c_2
      refine lv_iload_n hx hb dX11_put_19 rfl (lv_at hl 3 rfl) ?_
      refine lv_aload_n hx hb dX11_put_20 rfl (lv_at hl 1 rfl) ?_
      refine va_get (D := (dC, dI)) (ci := 11) (v := .ref (ad 2)) (C := RX11) (T := TX11) (N := 11) hx hb hts (fun w h => List.mem_cons_of_mem _ (inG11 w h)) hown hK hP 0 (gX_0 cs ad mu) rfl 1 (by decide) (hts (.fieldLink RX11 17 "DearLetters" "texts" "[LDearLetters$Text;") (List.mem_cons_of_mem _ (lg_at 2 159 (by decide +kernel) rfl))) (fun _ h9 => h9) rfl dX11_put_21 ?_
      refine lv_iload_n hx hb dX11_put_24 rfl (lv_at hl 2 rfl) ?_
      refine va_aldq hx hb hK hP 2 3 (gX_2 cs ad mu) rfl (show vp_in vt 4 from vi_of (by omega) (by omega)) dX11_put_25 ?_
      have hvt_c := tC_of (v := vt) (by omega)
      refine lq_v (.ref (ad (14 + vt.toNatClampNeg))) rfl ?_
      refine va_get (D := (dC, dI)) (ci := 9) (v := .int (mu (14 + vt.toNatClampNeg) 1)) (C := RX9) (T := TX9) (N := 2) hx hb hts (fun w h => List.mem_cons_of_mem _ (inG9 w h)) hown hK hP (14 + vt.toNatClampNeg) (gX_text cs ad mu (14 + vt.toNatClampNeg) (by omega) (by omega)) rfl 1 (by decide) (hts (.fieldLink RX11 121 "DearLetters$Text" "size" "I") (List.mem_cons_of_mem _ (lg_at 2 150 (by decide +kernel) rfl))) (fun _ h9 => h9) rfl dX11_put_26 ?_
      refine lv_topi (fun y4 ey4 => ?_)
      have by4 : y4.toInt = (mu (14 + vt.toNatClampNeg) 1).toInt := congrArg Int32.toInt ey4
      have gy4 : -1 ≤ y4.toInt ∧ y4.toInt ≤ 80 := by rw [ey4]; have h9 := ok (14 + vt.toNatClampNeg) 1; unfold loX hiX at h9; simp (discharger := omega) only [if_pos, if_neg, and_true, true_and] at h9; exact h9
      refine lv_icmp_lt (tgt := 38) hx hb dX11_put_29 (by decide) (fun c_5 => ?_) (fun c_5 => ?_)
      · have c_5 : vi.toInt < y4.toInt := il_lt c_5
        refine lv_aload_n hx hb dX11_put_38 rfl (lv_at hl 1 rfl) ?_
        refine va_get (D := (dC, dI)) (ci := 11) (v := .ref (ad 2)) (C := RX11) (T := TX11) (N := 11) hx hb hts (fun w h => List.mem_cons_of_mem _ (inG11 w h)) hown hK hP 0 (gX_0 cs ad mu) rfl 1 (by decide) (hts (.fieldLink RX11 17 "DearLetters" "texts" "[LDearLetters$Text;") (List.mem_cons_of_mem _ (lg_at 2 159 (by decide +kernel) rfl))) (fun _ h9 => h9) rfl dX11_put_39 ?_
        refine lv_iload_n hx hb dX11_put_42 rfl (lv_at hl 2 rfl) ?_
        refine va_aldq hx hb hK hP 2 3 (gX_2 cs ad mu) rfl (show vp_in vt 4 from vi_of (by omega) (by omega)) dX11_put_43 ?_
        have hvt_c := tC_of (v := vt) (by omega)
        refine lq_v (.ref (ad (14 + vt.toNatClampNeg))) rfl ?_
        refine va_get (D := (dC, dI)) (ci := 9) (v := .ref (ad ((14 + vt.toNatClampNeg) + 13))) (C := RX9) (T := TX9) (N := 2) hx hb hts (fun w h => List.mem_cons_of_mem _ (inG9 w h)) hown hK hP (14 + vt.toNatClampNeg) (gX_text cs ad mu (14 + vt.toNatClampNeg) (by omega) (by omega)) rfl 0 (by decide) (hts (.fieldLink RX11 122 "DearLetters$Text" "bytes" "[B") (List.mem_cons_of_mem _ (lg_at 2 147 (by decide +kernel) rfl))) (fun _ h9 => h9) rfl dX11_put_44 ?_
        refine lv_iload_n hx hb dX11_put_47 rfl (lv_at hl 3 rfl) ?_
        refine va_bald hx hb hK hP ((14 + vt.toNatClampNeg) + 13) 1 (gX_bytes cs ad mu ((14 + vt.toNatClampNeg) + 13) (by omega) (by omega)) rfl (show vp_in vi 80 from vi_of (by omega) (by omega)) dX11_put_48 ?_
        refine lv_topi (fun y6 ey6 => ?_)
        have by6 : y6.toInt = (mu ((14 + vt.toNatClampNeg) + 13) vi.toNatClampNeg).toInt := congrArg Int32.toInt ey6
        have gy6 : -128 ≤ y6.toInt ∧ y6.toInt ≤ 127 := by rw [ey6]; have h9 := ok ((14 + vt.toNatClampNeg) + 13) vi.toNatClampNeg; unfold loX hiX at h9; simp (discharger := omega) only [if_pos, if_neg, and_true, true_and] at h9; exact h9
        refine lv_istore (lv' := [(5, .int y6), (4, .int 0), (0, .ref (ad 0)), (1, .int vt), (2, .int vi), (3, .int vv)]) hx hb dX11_put_49 hl (by decide) rfl (fun ls hl => ?_)
        refine lv_aload_n hx hb dX11_put_51 rfl (lv_at hl 2 rfl) ?_
        refine va_get (D := (dC, dI)) (ci := 11) (v := .ref (ad 2)) (C := RX11) (T := TX11) (N := 11) hx hb hts (fun w h => List.mem_cons_of_mem _ (inG11 w h)) hown hK hP 0 (gX_0 cs ad mu) rfl 1 (by decide) (hts (.fieldLink RX11 17 "DearLetters" "texts" "[LDearLetters$Text;") (List.mem_cons_of_mem _ (lg_at 2 159 (by decide +kernel) rfl))) (fun _ h9 => h9) rfl dX11_put_52 ?_
        refine lv_iload_n hx hb dX11_put_55 rfl (lv_at hl 3 rfl) ?_
        refine va_aldq hx hb hK hP 2 3 (gX_2 cs ad mu) rfl (show vp_in vt 4 from vi_of (by omega) (by omega)) dX11_put_56 ?_
        have hvt_c := tC_of (v := vt) (by omega)
        refine lq_v (.ref (ad (14 + vt.toNatClampNeg))) rfl ?_
        refine va_get (D := (dC, dI)) (ci := 9) (v := .ref (ad ((14 + vt.toNatClampNeg) + 13))) (C := RX9) (T := TX9) (N := 2) hx hb hts (fun w h => List.mem_cons_of_mem _ (inG9 w h)) hown hK hP (14 + vt.toNatClampNeg) (gX_text cs ad mu (14 + vt.toNatClampNeg) (by omega) (by omega)) rfl 0 (by decide) (hts (.fieldLink RX11 122 "DearLetters$Text" "bytes" "[B") (List.mem_cons_of_mem _ (lg_at 2 147 (by decide +kernel) rfl))) (fun _ h9 => h9) rfl dX11_put_57 ?_
        refine lv_iload_n hx hb dX11_put_60 rfl (lv_at hl 4 rfl) ?_
        refine lv_iload_n hx hb dX11_put_61 rfl (lv_at hl 5 rfl) ?_
        refine lv_i2b hx hb dX11_put_62 rfl ?_
        refine lv_topi (fun t7 et7 => ?_)
        have gt7 : -128 ≤ t7.toInt ∧ t7.toInt ≤ 127 := by rw [et7]; exact tb_rng _
        refine va_bast hx hb hK hP (wR_D mu hD) hS ((14 + vt.toNatClampNeg) + 13) 1 (gX_bytes cs ad mu ((14 + vt.toNatClampNeg) + 13) (by omega) (by omega)) rfl (show vp_in vi 80 from vi_of (by omega) (by omega)) dX11_put_63 (fun H locs hP _ hS => ?_)
        have hP := wR_P (upd (mu ((14 + vt.toNatClampNeg) + 13)) vi.toNatClampNeg t7) hP (by first | rfl | (rw [EX_bytes cs ad _ _ (by omega) (by omega)]))
        have ok := okR_up ok ((14 + vt.toNatClampNeg) + 13) vi.toNatClampNeg t7 (by unfold loX; simp (discharger := omega) only [if_pos, if_neg, and_true, true_and]; omega) (by unfold hiX; simp (discharger := omega) only [if_pos, if_neg, and_true, true_and]; omega)
        refine lv_iload hx hb dX11_put_64 (lv_at hl 0 rfl) ?_
        refine lv_sipush (v := 1000) hx hb dX11_put_66 (by decide) ?_
        refine lv_iadd hx hb dX11_put_69 ?_
        refine lv_topi (fun t8 et8 => ?_)
        have at8 : t8.toInt = y6.toInt + 1000 := by rw [et8]; exact tI_add (rfl : y6.toInt = _) (rfl : (1000 : Int32).toInt = 1000) (by omega) (by omega)
        exact W.iret (v := t8) hx hb hr (fun t ht hW => ⟨⟨t8, (va_up mu ((14 + vt.toNatClampNeg) + 13) (upd (mu ((14 + vt.toNatClampNeg) + 13)) vi.toNatClampNeg t7)), rfl, ⟨ok, trivial⟩, by first | (subst ht; exact hP) | (rw [ht]; exact hP) | (show va_P (dC, dI) vwCl (wR 157 ad (EX cs ad) (va_up mu ((14 + vt.toNatClampNeg) + 13) (upd (mu ((14 + vt.toNatClampNeg) + 13)) vi.toNatClampNeg t7))) t.heap; rw [ht]; exact hP)⟩, hS.F ht⟩) hS.2.2 dX11_put_70
      · have c_5 : y4.toInt ≤ vi.toInt := il_nlt c_5
        refine lv_aload_n hx hb dX11_put_32 rfl (lv_at hl 1 rfl) ?_
        refine lv_iconst (v := 2) hx hb dX11_put_33 (by decide) ?_
        have hFc := fr_all (wR_D mu hD) hS hA
        refine va_calli (va_runV (As := [.int 2]) (rest := []) ⟨hx, hb, hml, hown, hts⟩ (sx_found l dC dI cs ad mu ok H1 hP ((wR_D mu hD).weaken (fun _ _ _ _ => trivial)) 2 (by decide)) (cwV 1 hts (wU_V (lg_at 2 202 (by decide +kernel) rfl) (lg_at 2 199 (by decide +kernel) rfl) (lg_at 2 201 (by decide +kernel) rfl) (lg_at 0 0 (by decide +kernel) rfl) (lg_at 1 1 (by decide +kernel) rfl)) rfl rfl rfl (by decide +kernel) ⟨Nat.le_of_ble_eq_true rfl, Nat.le_of_ble_eq_true rfl⟩) ⟨sz_c, va_recv hK hP (ci := 11) (q0 := 0) rfl (gX_0 cs ad mu), sz_m hK hz⟩ rfl rfl hl.1 rfl (lv_room (Nat.le_of_ble_eq_true rfl)) dX11_put_34 ⟨Nat.zero_le _, Nat.zero_le _⟩) hS (fun q _ h => hFc q h) hFc (fun r9 xi9 t H9 locs ht hvm hw9 hB hz1 hk1 hS => ?_)
        obtain ⟨ok, hw9⟩ := hw9
        have hP : va_P (dC, dI) vwCl (wR 157 ad (EX cs ad) xi9) H9 := by rw [← ht]; exact hB
        have gr9 : -3 ≤ r9.toInt ∧ r9.toInt ≤ -3 := hw9
        exact W.iret (v := r9) hx hb hr (fun t ht hW => ⟨⟨r9, xi9, rfl, ⟨ok, trivial⟩, by first | (subst ht; exact hP) | (rw [ht]; exact hP) | (show va_P (dC, dI) vwCl (wR 157 ad (EX cs ad) xi9) t.heap; rw [ht]; exact hP)⟩, hS.F ht⟩) hS.2.2 dX11_put_37
  · skip
    refine lv_istore (lv' := [(4, .int r1), (0, .ref (ad 0)), (1, .int vt), (2, .int vi), (3, .int vv)]) hx hb dX11_put_5 hl (by decide) rfl (fun ls hl => ?_)
    refine lv_iload hx hb dX11_put_7 (lv_at hl 0 rfl) ?_
    refine lv_if_eq (tgt := 15) hx hb dX11_put_9 (by decide) (fun c_10 => by have c_10 : r1.toInt = 0 := il_eq c_10; exfalso; omega) (fun c_10 => ?_)
    have c_10 : ¬ r1.toInt = 0 := il_ne c_10
    refine lv_iload hx hb dX11_put_12 (lv_at hl 0 rfl) ?_
    exact W.iret (v := r1) hx hb hr (fun t ht hW => ⟨⟨r1, xi1, rfl, ⟨ok, trivial⟩, by first | (subst ht; exact hP) | (rw [ht]; exact hP) | (show va_P (dC, dI) vwCl (wR 157 ad (EX cs ad) xi1) t.heap; rw [ht]; exact hP)⟩, hS.F ht⟩) hS.2.2 dX11_put_14
theorem dX11_purse_0 : decode cX11_purse 0 = .ok (.aload_n 0, 1) := by decide +kernel
theorem dX11_purse_1 : decode cX11_purse 1 = .ok (.getfield 30, 3) := by decide +kernel
theorem dX11_purse_4 : decode cX11_purse 4 = .ok (.iload_n 1, 1) := by decide +kernel
theorem dX11_purse_5 : decode cX11_purse 5 = .ok (.invokevirtual 142, 3) := by decide +kernel
theorem dX11_purse_8 : decode cX11_purse 8 = .ok (.ifCond .eq 14, 3) := by decide +kernel
theorem dX11_purse_11 : decode cX11_purse 11 = .ok (.iload_n 2, 1) := by decide +kernel
theorem dX11_purse_12 : decode cX11_purse 12 = .ok (.ifCond .lt 10, 3) := by decide +kernel
theorem dX11_purse_22 : decode cX11_purse 22 = .ok (.iconst (-1), 1) := by decide +kernel
theorem dX11_purse_23 : decode cX11_purse 23 = .ok (.ireturn, 1) := by decide +kernel
theorem dX11_purse_15 : decode cX11_purse 15 = .ok (.iload_n 2, 1) := by decide +kernel
theorem dX11_purse_16 : decode cX11_purse 16 = .ok (.sipush 999, 3) := by decide +kernel
theorem dX11_purse_19 : decode cX11_purse 19 = .ok (.if_icmp .le 5, 3) := by decide +kernel
theorem dX11_purse_24 : decode cX11_purse 24 = .ok (.aload_n 0, 1) := by decide +kernel
theorem dX11_purse_25 : decode cX11_purse 25 = .ok (.getfield 30, 3) := by decide +kernel
theorem dX11_purse_28 : decode cX11_purse 28 = .ok (.getfield 166, 3) := by decide +kernel
theorem dX11_purse_31 : decode cX11_purse 31 = .ok (.getfield 170, 3) := by decide +kernel
theorem dX11_purse_34 : decode cX11_purse 34 = .ok (.iload_n 1, 1) := by decide +kernel
theorem dX11_purse_35 : decode cX11_purse 35 = .ok (.iaload, 1) := by decide +kernel
theorem dX11_purse_36 : decode cX11_purse 36 = .ok (.istore_n 3, 1) := by decide +kernel
theorem dX11_purse_37 : decode cX11_purse 37 = .ok (.aload_n 0, 1) := by decide +kernel
theorem dX11_purse_38 : decode cX11_purse 38 = .ok (.getfield 30, 3) := by decide +kernel
theorem dX11_purse_41 : decode cX11_purse 41 = .ok (.getfield 166, 3) := by decide +kernel
theorem dX11_purse_44 : decode cX11_purse 44 = .ok (.getfield 170, 3) := by decide +kernel
theorem dX11_purse_47 : decode cX11_purse 47 = .ok (.iload_n 1, 1) := by decide +kernel
theorem dX11_purse_48 : decode cX11_purse 48 = .ok (.iload_n 2, 1) := by decide +kernel
theorem dX11_purse_49 : decode cX11_purse 49 = .ok (.iastore, 1) := by decide +kernel
theorem dX11_purse_50 : decode cX11_purse 50 = .ok (.iload_n 3, 1) := by decide +kernel
theorem dX11_purse_51 : decode cX11_purse 51 = .ok (.ireturn, 1) := by decide +kernel
set_option maxHeartbeats 4000000 in
set_option maxRecDepth 100000 in
/-- qx_purse -/
theorem qx_purse (l : Launch) (dC : Nat → ClassId) (dI : Nat → Nat → Nat) (cs : Nat → ClassId) (ad : Nat → Nat) (mu : Nat → Nat → Int32) (ok : okR loX hiX mu) (H : Heap) (hP : va_P (dC, dI) vwCl (wR 157 ad (EX cs ad) mu) H) (hD0 : va_D (fun _ => True) (wR 157 ad (EX cs ad) mu)) (vx : Int32) (vv : Int32) : Met l yX11_purse (wU yX11_purse cX11_purse 4 (some .int)) ({ frames := 1, cells := 0, slots := 0, locals := 21 }) (va_Pc [.ref (ad 0), .int vx, .int vv] (sz_P (dC, dI) vwCl (tyW cs) H)) (va_Qi (fun (z : Int32) (xi : Nat → Nat → Int32) => okR loX hiX xi ∧ True) (fun xi t => va_P (dC, dI) vwCl (wR 157 ad (EX cs ad) xi) t.heap) (va_A (wR 157 ad (EX cs ad) mu) H.size)) 0 0 (va_A (wR 157 ad (EX cs ad) mu) H.size) := by
  refine Met.ofW (cc := cX11_purse) (maxL := 4) (ret := (some .int)) (by decide) rfl ?_
  intro p e s m args below meth c s₁ B hml hv
  obtain ⟨rfl, hh, hK, hz⟩ := hv
  have hx := B.exec
  have hb := B.bytes
  have hr := B.returns
  have hts := atoms_spec (ws := (wU yX11_purse cX11_purse 4 (some .int))) B.pre
  have hown : s.vm.findClass RX11 = some m.cls := findClass_of_methodNamed B.named
  have hlocks := B.notSynchronized
  subst hh
  have hD := hD0.self (sz := s.heap.size)
  have hA : ∀ q : Nat, s.heap.size ≤ q → (va_A (wR 157 ad (EX cs ad) mu) s.heap.size) q := fun q h => Or.inr h
  have hS : va_S (va_A (wR 157 ad (EX cs ad) mu) s.heap.size) s.heap s.heap [] := va_S.rf
  have hl := lv_entry ([.ref (ad 0), .int vx, .int vv]) (n := 4) (Nat.le_of_ble_eq_true rfl)
  rw [lg_entry_eq]
  generalize (lg_sl ([.ref (ad 0), .int vx, .int vv]) ++ List.replicate (4 - (lg_sl ([.ref (ad 0), .int vx, .int vv])).length) Slot.unset).toArray = ls at hl ⊢
  have hl : lv_has ls 4 [(0, .ref (ad 0)), (1, .int vx), (2, .int vv)] := hl
  refine lv_aload_n hx hb dX11_purse_0 rfl (lv_at hl 0 rfl) ?_
  refine va_get (D := (dC, dI)) (ci := 11) (v := .ref (ad 4)) (C := RX11) (T := TX11) (N := 11) hx hb hts (fun w h => List.mem_cons_of_mem _ (inG11 w h)) hown hK hP 0 (gX_0 cs ad mu) rfl 3 (by decide) (hts (.fieldLink RX11 30 "DearLetters" "town" "LDearLetters$Town;") (List.mem_cons_of_mem _ (lg_at 2 161 (by decide +kernel) rfl))) (fun _ h9 => h9) rfl dX11_purse_1 ?_
  refine lv_iload_n hx hb dX11_purse_4 rfl (lv_at hl 1 rfl) ?_
  refine cr_i (va_runV (As := [.int vx]) (rest := []) ⟨hx, hb, hml, hown, hts⟩ (sx_has l dC dI cs ad mu ok s.heap hP vx) (cwV 1 hts (wU_V (lg_at 3 76 (by decide +kernel) rfl) (lg_at 3 73 (by decide +kernel) rfl) (lg_at 3 74 (by decide +kernel) rfl) (lg_at 3 75 (by decide +kernel) rfl) (lg_at 1 2 (by decide +kernel) rfl)) rfl rfl rfl (by decide +kernel) ⟨Nat.le_of_ble_eq_true rfl, Nat.le_of_ble_eq_true rfl⟩) ⟨sz_c, va_recv hK hP (ci := 10) (q0 := 4) rfl (gX_4 cs ad mu), sz_m hK hz⟩ rfl rfl hl.1 rfl (lv_room (Nat.le_of_ble_eq_true rfl)) dX11_purse_5 ⟨Nat.zero_le _, Nat.zero_le _⟩) hS (fun r1 hw1 locs hS => ?_)
  rcases hw1 with ⟨rfl, f1⟩ | ⟨rfl, f1⟩
  · have f1 : 0 ≤ vx.toInt ∧ vx.toInt < (mu 4 6).toInt ∧ (mu 4 6).toInt ≤ 7 := f1
    refine lv_if_eq (tgt := 22) hx hb dX11_purse_8 (by decide) (fun c => absurd c (by decide)) (fun _ => ?_)
    refine lv_iload_n hx hb dX11_purse_11 rfl (lv_at hl 2 rfl) ?_
    refine lv_if_lt (tgt := 22) hx hb dX11_purse_12 (by decide) (fun c_2 => ?_) (fun c_2 => ?_)
    · have c_2 : vv.toInt < 0 := il_lt c_2
      refine lv_iconst (v := (-1)) hx hb dX11_purse_22 (by decide) ?_
      exact W.iret (v := (-1)) hx hb hr (fun t ht hW => ⟨⟨(-1), mu, rfl, ⟨ok, trivial⟩, by first | (subst ht; exact hP) | (rw [ht]; exact hP) | (show va_P (dC, dI) vwCl (wR 157 ad (EX cs ad) mu) t.heap; rw [ht]; exact hP)⟩, hS.F ht⟩) hS.2.2 dX11_purse_23
    · have c_2 : 0 ≤ vv.toInt := il_nlt c_2
      refine lv_iload_n hx hb dX11_purse_15 rfl (lv_at hl 2 rfl) ?_
      refine lv_sipush (v := 999) hx hb dX11_purse_16 (by decide) ?_
      refine lv_icmp_le (tgt := 24) hx hb dX11_purse_19 (by decide) (fun c_3 => ?_) (fun c_3 => ?_)
      · have c_3 : vv.toInt ≤ 999 := il_le c_3
        refine lv_aload_n hx hb dX11_purse_24 rfl (lv_at hl 0 rfl) ?_
        refine va_get (D := (dC, dI)) (ci := 11) (v := .ref (ad 4)) (C := RX11) (T := TX11) (N := 11) hx hb hts (fun w h => List.mem_cons_of_mem _ (inG11 w h)) hown hK hP 0 (gX_0 cs ad mu) rfl 3 (by decide) (hts (.fieldLink RX11 30 "DearLetters" "town" "LDearLetters$Town;") (List.mem_cons_of_mem _ (lg_at 2 161 (by decide +kernel) rfl))) (fun _ h9 => h9) rfl dX11_purse_25 ?_
        refine va_get (D := (dC, dI)) (ci := 10) (v := .ref (ad 5)) (C := RX10) (T := TX10) (N := 8) hx hb hts (fun w h => List.mem_cons_of_mem _ (inG10 w h)) hown hK hP 4 (gX_4 cs ad mu) rfl 3 (by decide) (hts (.fieldLink RX11 166 "DearLetters$Town" "now" "LDearLetters$Standing;") (List.mem_cons_of_mem _ (lg_at 1 157 (by decide +kernel) rfl))) (fun _ h9 => h9) rfl dX11_purse_28 ?_
        refine va_get (D := (dC, dI)) (ci := 8) (v := .ref (ad 46)) (C := RX8) (T := TX8) (N := 6) hx hb hts (fun w h => List.mem_cons_of_mem _ (inG8 w h)) hown hK hP 5 (gX_5 cs ad mu) rfl 0 (by decide) (hts (.fieldLink RX11 170 "DearLetters$Standing" "purses" "[I") (List.mem_cons_of_mem _ (lg_at 1 108 (by decide +kernel) rfl))) (fun _ h9 => h9) rfl dX11_purse_31 ?_
        refine lv_iload_n hx hb dX11_purse_34 rfl (lv_at hl 1 rfl) ?_
        refine va_iald hx hb hK hP 46 0 (gX_46 cs ad mu) rfl (show vp_in vx 7 from vi_of (by omega) (by omega)) dX11_purse_35 ?_
        refine lv_topi (fun y4 ey4 => ?_)
        have by4 : y4.toInt = (mu 46 vx.toNatClampNeg).toInt := congrArg Int32.toInt ey4
        refine lv_istore_n (lv' := [(3, .int y4), (0, .ref (ad 0)), (1, .int vx), (2, .int vv)]) hx hb dX11_purse_36 rfl hl (by decide) rfl (fun ls hl => ?_)
        refine lv_aload_n hx hb dX11_purse_37 rfl (lv_at hl 1 rfl) ?_
        refine va_get (D := (dC, dI)) (ci := 11) (v := .ref (ad 4)) (C := RX11) (T := TX11) (N := 11) hx hb hts (fun w h => List.mem_cons_of_mem _ (inG11 w h)) hown hK hP 0 (gX_0 cs ad mu) rfl 3 (by decide) (hts (.fieldLink RX11 30 "DearLetters" "town" "LDearLetters$Town;") (List.mem_cons_of_mem _ (lg_at 2 161 (by decide +kernel) rfl))) (fun _ h9 => h9) rfl dX11_purse_38 ?_
        refine va_get (D := (dC, dI)) (ci := 10) (v := .ref (ad 5)) (C := RX10) (T := TX10) (N := 8) hx hb hts (fun w h => List.mem_cons_of_mem _ (inG10 w h)) hown hK hP 4 (gX_4 cs ad mu) rfl 3 (by decide) (hts (.fieldLink RX11 166 "DearLetters$Town" "now" "LDearLetters$Standing;") (List.mem_cons_of_mem _ (lg_at 1 157 (by decide +kernel) rfl))) (fun _ h9 => h9) rfl dX11_purse_41 ?_
        refine va_get (D := (dC, dI)) (ci := 8) (v := .ref (ad 46)) (C := RX8) (T := TX8) (N := 6) hx hb hts (fun w h => List.mem_cons_of_mem _ (inG8 w h)) hown hK hP 5 (gX_5 cs ad mu) rfl 0 (by decide) (hts (.fieldLink RX11 170 "DearLetters$Standing" "purses" "[I") (List.mem_cons_of_mem _ (lg_at 1 108 (by decide +kernel) rfl))) (fun _ h9 => h9) rfl dX11_purse_44 ?_
        refine lv_iload_n hx hb dX11_purse_47 rfl (lv_at hl 2 rfl) ?_
        refine lv_iload_n hx hb dX11_purse_48 rfl (lv_at hl 3 rfl) ?_
        refine va_iast hx hb hK hP (wR_D mu hD) hS 46 0 (gX_46 cs ad mu) rfl (show vp_in vx 7 from vi_of (by omega) (by omega)) dX11_purse_49 (fun H locs hP _ hS => ?_)
        have hP := wR_P (upd (mu 46) vx.toNatClampNeg vv) hP (rfl)
        have ok := okR_up ok 46 vx.toNatClampNeg vv (by first | exact tI_lo _ | (unfold loX; simp (discharger := omega) only [if_pos, if_neg, and_true, true_and]; exact tI_lo _)) (by first | exact tI_hi _ | (unfold hiX; simp (discharger := omega) only [if_pos, if_neg, and_true, true_and]; exact tI_hi _))
        refine lv_iload_n hx hb dX11_purse_50 rfl (lv_at hl 0 rfl) ?_
        exact W.iret (v := y4) hx hb hr (fun t ht hW => ⟨⟨y4, (va_up mu 46 (upd (mu 46) vx.toNatClampNeg vv)), rfl, ⟨ok, trivial⟩, by first | (subst ht; exact hP) | (rw [ht]; exact hP) | (show va_P (dC, dI) vwCl (wR 157 ad (EX cs ad) (va_up mu 46 (upd (mu 46) vx.toNatClampNeg vv))) t.heap; rw [ht]; exact hP)⟩, hS.F ht⟩) hS.2.2 dX11_purse_51
      · have c_3 : 999 < vv.toInt := il_nle c_3
        refine lv_iconst (v := (-1)) hx hb dX11_purse_22 (by decide) ?_
        exact W.iret (v := (-1)) hx hb hr (fun t ht hW => ⟨⟨(-1), mu, rfl, ⟨ok, trivial⟩, by first | (subst ht; exact hP) | (rw [ht]; exact hP) | (show va_P (dC, dI) vwCl (wR 157 ad (EX cs ad) mu) t.heap; rw [ht]; exact hP)⟩, hS.F ht⟩) hS.2.2 dX11_purse_23
  · have f1 : vx.toInt < 0 ∨ (mu 4 6).toInt ≤ vx.toInt := f1
    refine lv_if_eq (tgt := 22) hx hb dX11_purse_8 (by decide) (fun _ => ?_) (fun c => absurd (by decide) c)
    refine lv_iconst (v := (-1)) hx hb dX11_purse_22 (by decide) ?_
    exact W.iret (v := (-1)) hx hb hr (fun t ht hW => ⟨⟨(-1), mu, rfl, ⟨ok, trivial⟩, by first | (subst ht; exact hP) | (rw [ht]; exact hP) | (show va_P (dC, dI) vwCl (wR 157 ad (EX cs ad) mu) t.heap; rw [ht]; exact hP)⟩, hS.F ht⟩) hS.2.2 dX11_purse_23
theorem dX11_days_0 : decode cX11_days 0 = .ok (.iload_n 1, 1) := by decide +kernel
theorem dX11_days_1 : decode cX11_days 1 = .ok (.ifCond .lt 9, 3) := by decide +kernel
theorem dX11_days_10 : decode cX11_days 10 = .ok (.iconst (-1), 1) := by decide +kernel
theorem dX11_days_11 : decode cX11_days 11 = .ok (.ireturn, 1) := by decide +kernel
theorem dX11_days_4 : decode cX11_days 4 = .ok (.iload_n 1, 1) := by decide +kernel
theorem dX11_days_5 : decode cX11_days 5 = .ok (.bipush 20, 2) := by decide +kernel
theorem dX11_days_7 : decode cX11_days 7 = .ok (.if_icmp .le 5, 3) := by decide +kernel
theorem dX11_days_12 : decode cX11_days 12 = .ok (.aload_n 0, 1) := by decide +kernel
theorem dX11_days_13 : decode cX11_days 13 = .ok (.getfield 30, 3) := by decide +kernel
theorem dX11_days_16 : decode cX11_days 16 = .ok (.getfield 166, 3) := by decide +kernel
theorem dX11_days_19 : decode cX11_days 19 = .ok (.getfield 192, 3) := by decide +kernel
theorem dX11_days_22 : decode cX11_days 22 = .ok (.iload_n 1, 1) := by decide +kernel
theorem dX11_days_23 : decode cX11_days 23 = .ok (.iadd, 1) := by decide +kernel
theorem dX11_days_24 : decode cX11_days 24 = .ok (.bipush 99, 2) := by decide +kernel
theorem dX11_days_26 : decode cX11_days 26 = .ok (.if_icmp .le 6, 3) := by decide +kernel
theorem dX11_days_32 : decode cX11_days 32 = .ok (.aload_n 0, 1) := by decide +kernel
theorem dX11_days_33 : decode cX11_days 33 = .ok (.getfield 30, 3) := by decide +kernel
theorem dX11_days_36 : decode cX11_days 36 = .ok (.getfield 166, 3) := by decide +kernel
theorem dX11_days_39 : decode cX11_days 39 = .ok (.dup, 1) := by decide +kernel
theorem dX11_days_40 : decode cX11_days 40 = .ok (.getfield 192, 3) := by decide +kernel
theorem dX11_days_43 : decode cX11_days 43 = .ok (.iload_n 1, 1) := by decide +kernel
theorem dX11_days_44 : decode cX11_days 44 = .ok (.iadd, 1) := by decide +kernel
theorem dX11_days_45 : decode cX11_days 45 = .ok (.putfield 192, 3) := by decide +kernel
theorem dX11_days_48 : decode cX11_days 48 = .ok (.aload_n 0, 1) := by decide +kernel
theorem dX11_days_49 : decode cX11_days 49 = .ok (.getfield 30, 3) := by decide +kernel
theorem dX11_days_52 : decode cX11_days 52 = .ok (.getfield 166, 3) := by decide +kernel
theorem dX11_days_55 : decode cX11_days 55 = .ok (.getfield 192, 3) := by decide +kernel
theorem dX11_days_58 : decode cX11_days 58 = .ok (.ireturn, 1) := by decide +kernel
theorem dX11_days_29 : decode cX11_days 29 = .ok (.bipush (-2), 2) := by decide +kernel
theorem dX11_days_31 : decode cX11_days 31 = .ok (.ireturn, 1) := by decide +kernel
set_option maxHeartbeats 4000000 in
set_option maxRecDepth 100000 in
/-- qx_days -/
theorem qx_days (l : Launch) (dC : Nat → ClassId) (dI : Nat → Nat → Nat) (cs : Nat → ClassId) (ad : Nat → Nat) (mu : Nat → Nat → Int32) (ok : okR loX hiX mu) (H : Heap) (hP : va_P (dC, dI) vwCl (wR 157 ad (EX cs ad) mu) H) (hD0 : va_D (fun _ => True) (wR 157 ad (EX cs ad) mu)) (vn : Int32) : Met l yX11_days (wU yX11_days cX11_days 2 (some .int)) ({ frames := 0, cells := 0, slots := 0, locals := 0 }) (va_Pc [.ref (ad 0), .int vn] (sz_P (dC, dI) vwCl (tyW cs) H)) (va_Qi (fun (z : Int32) (xi : Nat → Nat → Int32) => okR loX hiX xi ∧ True) (fun xi t => va_P (dC, dI) vwCl (wR 157 ad (EX cs ad) xi) t.heap) (va_A (wR 157 ad (EX cs ad) mu) H.size)) 0 0 (va_A (wR 157 ad (EX cs ad) mu) H.size) := by
  refine Met.ofW (cc := cX11_days) (maxL := 2) (ret := (some .int)) (by decide) rfl ?_
  intro p e s m args below meth c s₁ B hml hv
  obtain ⟨rfl, hh, hK, hz⟩ := hv
  have hx := B.exec
  have hb := B.bytes
  have hr := B.returns
  have hts := atoms_spec (ws := (wU yX11_days cX11_days 2 (some .int))) B.pre
  have hown : s.vm.findClass RX11 = some m.cls := findClass_of_methodNamed B.named
  have hlocks := B.notSynchronized
  subst hh
  have hD := hD0.self (sz := s.heap.size)
  have hA : ∀ q : Nat, s.heap.size ≤ q → (va_A (wR 157 ad (EX cs ad) mu) s.heap.size) q := fun q h => Or.inr h
  have hS : va_S (va_A (wR 157 ad (EX cs ad) mu) s.heap.size) s.heap s.heap [] := va_S.rf
  have hl := lv_entry ([.ref (ad 0), .int vn]) (n := 2) (Nat.le_of_ble_eq_true rfl)
  rw [lg_entry_eq]
  generalize (lg_sl ([.ref (ad 0), .int vn]) ++ List.replicate (2 - (lg_sl ([.ref (ad 0), .int vn])).length) Slot.unset).toArray = ls at hl ⊢
  have hl : lv_has ls 2 [(0, .ref (ad 0)), (1, .int vn)] := hl
  refine lv_iload_n hx hb dX11_days_0 rfl (lv_at hl 1 rfl) ?_
  refine lv_if_lt (tgt := 10) hx hb dX11_days_1 (by decide) (fun c_1 => ?_) (fun c_1 => ?_)
  · have c_1 : vn.toInt < 0 := il_lt c_1
    refine lv_iconst (v := (-1)) hx hb dX11_days_10 (by decide) ?_
    exact W.iret (v := (-1)) hx hb hr (fun t ht hW => ⟨⟨(-1), mu, rfl, ⟨ok, trivial⟩, by first | (subst ht; exact hP) | (rw [ht]; exact hP) | (show va_P (dC, dI) vwCl (wR 157 ad (EX cs ad) mu) t.heap; rw [ht]; exact hP)⟩, hS.F ht⟩) hS.2.2 dX11_days_11
  · have c_1 : 0 ≤ vn.toInt := il_nlt c_1
    refine lv_iload_n hx hb dX11_days_4 rfl (lv_at hl 1 rfl) ?_
    refine lv_bipush (v := 20) hx hb dX11_days_5 (by decide) ?_
    refine lv_icmp_le (tgt := 12) hx hb dX11_days_7 (by decide) (fun c_2 => ?_) (fun c_2 => ?_)
    · have c_2 : vn.toInt ≤ 20 := il_le c_2
      refine lv_aload_n hx hb dX11_days_12 rfl (lv_at hl 0 rfl) ?_
      refine va_get (D := (dC, dI)) (ci := 11) (v := .ref (ad 4)) (C := RX11) (T := TX11) (N := 11) hx hb hts (fun w h => List.mem_cons_of_mem _ (inG11 w h)) hown hK hP 0 (gX_0 cs ad mu) rfl 3 (by decide) (hts (.fieldLink RX11 30 "DearLetters" "town" "LDearLetters$Town;") (List.mem_cons_of_mem _ (lg_at 2 161 (by decide +kernel) rfl))) (fun _ h9 => h9) rfl dX11_days_13 ?_
      refine va_get (D := (dC, dI)) (ci := 10) (v := .ref (ad 5)) (C := RX10) (T := TX10) (N := 8) hx hb hts (fun w h => List.mem_cons_of_mem _ (inG10 w h)) hown hK hP 4 (gX_4 cs ad mu) rfl 3 (by decide) (hts (.fieldLink RX11 166 "DearLetters$Town" "now" "LDearLetters$Standing;") (List.mem_cons_of_mem _ (lg_at 1 157 (by decide +kernel) rfl))) (fun _ h9 => h9) rfl dX11_days_16 ?_
      refine va_get (D := (dC, dI)) (ci := 8) (v := .int (mu 5 3)) (C := RX8) (T := TX8) (N := 6) hx hb hts (fun w h => List.mem_cons_of_mem _ (inG8 w h)) hown hK hP 5 (gX_5 cs ad mu) rfl 3 (by decide) (hts (.fieldLink RX11 192 "DearLetters$Standing" "day" "I") (List.mem_cons_of_mem _ (lg_at 1 124 (by decide +kernel) rfl))) (fun _ h9 => h9) rfl dX11_days_19 ?_
      refine lv_topi (fun y3 ey3 => ?_)
      have by3 : y3.toInt = (mu 5 3).toInt := congrArg Int32.toInt ey3
      refine lv_iload_n hx hb dX11_days_22 rfl (lv_at hl 1 rfl) ?_
      refine lv_iadd hx hb dX11_days_23 ?_
      refine lv_topi (fun t4 et4 => ?_)
      refine lv_bipush (v := 99) hx hb dX11_days_24 (by decide) ?_
      refine lv_icmp_le (tgt := 32) hx hb dX11_days_26 (by decide) (fun c_5 => ?_) (fun c_5 => ?_)
      · have c_5 : t4.toInt ≤ 99 := il_le c_5
        refine lv_aload_n hx hb dX11_days_32 rfl (lv_at hl 0 rfl) ?_
        refine va_get (D := (dC, dI)) (ci := 11) (v := .ref (ad 4)) (C := RX11) (T := TX11) (N := 11) hx hb hts (fun w h => List.mem_cons_of_mem _ (inG11 w h)) hown hK hP 0 (gX_0 cs ad mu) rfl 3 (by decide) (hts (.fieldLink RX11 30 "DearLetters" "town" "LDearLetters$Town;") (List.mem_cons_of_mem _ (lg_at 2 161 (by decide +kernel) rfl))) (fun _ h9 => h9) rfl dX11_days_33 ?_
        refine va_get (D := (dC, dI)) (ci := 10) (v := .ref (ad 5)) (C := RX10) (T := TX10) (N := 8) hx hb hts (fun w h => List.mem_cons_of_mem _ (inG10 w h)) hown hK hP 4 (gX_4 cs ad mu) rfl 3 (by decide) (hts (.fieldLink RX11 166 "DearLetters$Town" "now" "LDearLetters$Standing;") (List.mem_cons_of_mem _ (lg_at 1 157 (by decide +kernel) rfl))) (fun _ h9 => h9) rfl dX11_days_36 ?_
        refine lv_dup hx hb dX11_days_39 rfl ?_
        refine va_get (D := (dC, dI)) (ci := 8) (v := .int (mu 5 3)) (C := RX8) (T := TX8) (N := 6) hx hb hts (fun w h => List.mem_cons_of_mem _ (inG8 w h)) hown hK hP 5 (gX_5 cs ad mu) rfl 3 (by decide) (hts (.fieldLink RX11 192 "DearLetters$Standing" "day" "I") (List.mem_cons_of_mem _ (lg_at 1 124 (by decide +kernel) rfl))) (fun _ h9 => h9) rfl dX11_days_40 ?_
        refine lq_i y3 (by first | (rw [ey3]; done) | (rw [ey3]; rfl) | (rw [ey3]; simp (discharger := omega) only [va_up, if_neg])) ?_
        refine lv_iload_n hx hb dX11_days_43 rfl (lv_at hl 1 rfl) ?_
        refine lv_iadd hx hb dX11_days_44 ?_
        refine lv_topi (fun t6 et6 => ?_)
        refine va_put (D := (dC, dI)) (ci := 8) (v := .int t6) (ty := .int) (C := RX8) (T := TX8) (N := 6) hx hb hts (fun w h => List.mem_cons_of_mem _ (inG8 w h)) tyX8 tyX8_ok nmX8 hown hK hP (wR_D mu hD) hS 5 (gX_5 cs ad mu) rfl 3 (by decide) (hts (.fieldLink RX11 192 "DearLetters$Standing" "day" "I") (List.mem_cons_of_mem _ (lg_at 1 124 (by decide +kernel) rfl))) (fun _ h9 => h9) rfl (by decide +kernel) (by first | rfl | decide) (by first | rfl | decide) (Nat.le_of_ble_eq_true rfl) dX11_days_45 (fun H locs hP _ hS => ?_)
        have hP := wR_P (upd (mu 5) 3 t6) hP (rfl)
        have ok := okR_up ok 5 3 t6 (by first | exact tI_lo _ | (unfold loX; simp (discharger := omega) only [if_pos, if_neg, and_true, true_and]; exact tI_lo _)) (by first | exact tI_hi _ | (unfold hiX; simp (discharger := omega) only [if_pos, if_neg, and_true, true_and]; exact tI_hi _))
        refine lv_aload_n hx hb dX11_days_48 rfl (lv_at hl 0 rfl) ?_
        refine va_get (D := (dC, dI)) (ci := 11) (v := .ref (ad 4)) (C := RX11) (T := TX11) (N := 11) hx hb hts (fun w h => List.mem_cons_of_mem _ (inG11 w h)) hown hK hP 0 (gX_0 cs ad (va_up mu 5 (upd (mu 5) 3 t6))) rfl 3 (by decide) (hts (.fieldLink RX11 30 "DearLetters" "town" "LDearLetters$Town;") (List.mem_cons_of_mem _ (lg_at 2 161 (by decide +kernel) rfl))) (fun _ h9 => h9) rfl dX11_days_49 ?_
        refine va_get (D := (dC, dI)) (ci := 10) (v := .ref (ad 5)) (C := RX10) (T := TX10) (N := 8) hx hb hts (fun w h => List.mem_cons_of_mem _ (inG10 w h)) hown hK hP 4 (gX_4 cs ad (va_up mu 5 (upd (mu 5) 3 t6))) rfl 3 (by decide) (hts (.fieldLink RX11 166 "DearLetters$Town" "now" "LDearLetters$Standing;") (List.mem_cons_of_mem _ (lg_at 1 157 (by decide +kernel) rfl))) (fun _ h9 => h9) rfl dX11_days_52 ?_
        refine va_get (D := (dC, dI)) (ci := 8) (v := .int ((va_up mu 5 (upd (mu 5) 3 t6)) 5 3)) (C := RX8) (T := TX8) (N := 6) hx hb hts (fun w h => List.mem_cons_of_mem _ (inG8 w h)) hown hK hP 5 (gX_5 cs ad (va_up mu 5 (upd (mu 5) 3 t6))) rfl 3 (by decide) (hts (.fieldLink RX11 192 "DearLetters$Standing" "day" "I") (List.mem_cons_of_mem _ (lg_at 1 124 (by decide +kernel) rfl))) (fun _ h9 => h9) rfl dX11_days_55 ?_
        refine lq_i t6 (by rfl) ?_
        exact W.iret (v := t6) hx hb hr (fun t ht hW => ⟨⟨t6, (va_up mu 5 (upd (mu 5) 3 t6)), rfl, ⟨ok, trivial⟩, by first | (subst ht; exact hP) | (rw [ht]; exact hP) | (show va_P (dC, dI) vwCl (wR 157 ad (EX cs ad) (va_up mu 5 (upd (mu 5) 3 t6))) t.heap; rw [ht]; exact hP)⟩, hS.F ht⟩) hS.2.2 dX11_days_58
      · have c_5 : 99 < t4.toInt := il_nle c_5
        refine lv_bipush (v := (-2)) hx hb dX11_days_29 (by decide) ?_
        exact W.iret (v := (-2)) hx hb hr (fun t ht hW => ⟨⟨(-2), mu, rfl, ⟨ok, trivial⟩, by first | (subst ht; exact hP) | (rw [ht]; exact hP) | (show va_P (dC, dI) vwCl (wR 157 ad (EX cs ad) mu) t.heap; rw [ht]; exact hP)⟩, hS.F ht⟩) hS.2.2 dX11_days_31
    · have c_2 : 20 < vn.toInt := il_nle c_2
      refine lv_iconst (v := (-1)) hx hb dX11_days_10 (by decide) ?_
      exact W.iret (v := (-1)) hx hb hr (fun t ht hW => ⟨⟨(-1), mu, rfl, ⟨ok, trivial⟩, by first | (subst ht; exact hP) | (rw [ht]; exact hP) | (show va_P (dC, dI) vwCl (wR 157 ad (EX cs ad) mu) t.heap; rw [ht]; exact hP)⟩, hS.F ht⟩) hS.2.2 dX11_days_11
theorem dX11_beside_0 : decode cX11_beside 0 = .ok (.aload_n 0, 1) := by decide +kernel
theorem dX11_beside_1 : decode cX11_beside 1 = .ok (.getfield 30, 3) := by decide +kernel
theorem dX11_beside_4 : decode cX11_beside 4 = .ok (.iload_n 1, 1) := by decide +kernel
theorem dX11_beside_5 : decode cX11_beside 5 = .ok (.invokevirtual 142, 3) := by decide +kernel
theorem dX11_beside_8 : decode cX11_beside 8 = .ok (.ifCond .ne 5, 3) := by decide +kernel
theorem dX11_beside_13 : decode cX11_beside 13 = .ok (.aload_n 0, 1) := by decide +kernel
theorem dX11_beside_14 : decode cX11_beside 14 = .ok (.getfield 30, 3) := by decide +kernel
theorem dX11_beside_17 : decode cX11_beside 17 = .ok (.iload_n 1, 1) := by decide +kernel
theorem dX11_beside_18 : decode cX11_beside 18 = .ok (.aload_n 0, 1) := by decide +kernel
theorem dX11_beside_19 : decode cX11_beside 19 = .ok (.getfield 30, 3) := by decide +kernel
theorem dX11_beside_22 : decode cX11_beside 22 = .ok (.getfield 166, 3) := by decide +kernel
theorem dX11_beside_25 : decode cX11_beside 25 = .ok (.getfield 176, 3) := by decide +kernel
theorem dX11_beside_28 : decode cX11_beside 28 = .ok (.invokevirtual 179, 3) := by decide +kernel
theorem dX11_beside_31 : decode cX11_beside 31 = .ok (.ireturn, 1) := by decide +kernel
theorem dX11_beside_11 : decode cX11_beside 11 = .ok (.iconst (-1), 1) := by decide +kernel
theorem dX11_beside_12 : decode cX11_beside 12 = .ok (.ireturn, 1) := by decide +kernel
set_option maxHeartbeats 4000000 in
set_option maxRecDepth 100000 in
/-- qx_beside -/
theorem qx_beside (l : Launch) (dC : Nat → ClassId) (dI : Nat → Nat → Nat) (cs : Nat → ClassId) (ad : Nat → Nat) (mu : Nat → Nat → Int32) (ok : okR loX hiX mu) (H : Heap) (hP : va_P (dC, dI) vwCl (wR 157 ad (EX cs ad) mu) H) (hD0 : va_D (fun _ => True) (wR 157 ad (EX cs ad) mu)) (vx : Int32) : Met l yX11_beside (wU yX11_beside cX11_beside 2 (some .int)) ({ frames := 2, cells := 0, slots := 0, locals := 45 }) (va_Pc [.ref (ad 0), .int vx] (sz_P (dC, dI) vwCl (tyW cs) H)) (va_Qi (fun (z : Int32) (xi : Nat → Nat → Int32) => okR loX hiX xi ∧ True) (fun xi t => va_P (dC, dI) vwCl (wR 157 ad (EX cs ad) xi) t.heap) (va_A (wR 157 ad (EX cs ad) mu) H.size)) 0 0 (va_A (wR 157 ad (EX cs ad) mu) H.size) := by
  refine Met.ofW (cc := cX11_beside) (maxL := 2) (ret := (some .int)) (by decide) rfl ?_
  intro p e s m args below meth c s₁ B hml hv
  obtain ⟨rfl, hh, hK, hz⟩ := hv
  have hx := B.exec
  have hb := B.bytes
  have hr := B.returns
  have hts := atoms_spec (ws := (wU yX11_beside cX11_beside 2 (some .int))) B.pre
  have hown : s.vm.findClass RX11 = some m.cls := findClass_of_methodNamed B.named
  have hlocks := B.notSynchronized
  subst hh
  have hD := hD0.self (sz := s.heap.size)
  have hA : ∀ q : Nat, s.heap.size ≤ q → (va_A (wR 157 ad (EX cs ad) mu) s.heap.size) q := fun q h => Or.inr h
  have hS : va_S (va_A (wR 157 ad (EX cs ad) mu) s.heap.size) s.heap s.heap [] := va_S.rf
  have hl := lv_entry ([.ref (ad 0), .int vx]) (n := 2) (Nat.le_of_ble_eq_true rfl)
  rw [lg_entry_eq]
  generalize (lg_sl ([.ref (ad 0), .int vx]) ++ List.replicate (2 - (lg_sl ([.ref (ad 0), .int vx])).length) Slot.unset).toArray = ls at hl ⊢
  have hl : lv_has ls 2 [(0, .ref (ad 0)), (1, .int vx)] := hl
  refine lv_aload_n hx hb dX11_beside_0 rfl (lv_at hl 0 rfl) ?_
  refine va_get (D := (dC, dI)) (ci := 11) (v := .ref (ad 4)) (C := RX11) (T := TX11) (N := 11) hx hb hts (fun w h => List.mem_cons_of_mem _ (inG11 w h)) hown hK hP 0 (gX_0 cs ad mu) rfl 3 (by decide) (hts (.fieldLink RX11 30 "DearLetters" "town" "LDearLetters$Town;") (List.mem_cons_of_mem _ (lg_at 2 161 (by decide +kernel) rfl))) (fun _ h9 => h9) rfl dX11_beside_1 ?_
  refine lv_iload_n hx hb dX11_beside_4 rfl (lv_at hl 1 rfl) ?_
  refine cr_i (va_runV (As := [.int vx]) (rest := []) ⟨hx, hb, hml, hown, hts⟩ (sx_has l dC dI cs ad mu ok s.heap hP vx) (cwV 1 hts (wU_V (lg_at 3 76 (by decide +kernel) rfl) (lg_at 3 73 (by decide +kernel) rfl) (lg_at 3 74 (by decide +kernel) rfl) (lg_at 3 75 (by decide +kernel) rfl) (lg_at 1 2 (by decide +kernel) rfl)) rfl rfl rfl (by decide +kernel) ⟨Nat.le_of_ble_eq_true rfl, Nat.le_of_ble_eq_true rfl⟩) ⟨sz_c, va_recv hK hP (ci := 10) (q0 := 4) rfl (gX_4 cs ad mu), sz_m hK hz⟩ rfl rfl hl.1 rfl (lv_room (Nat.le_of_ble_eq_true rfl)) dX11_beside_5 ⟨Nat.zero_le _, Nat.zero_le _⟩) hS (fun r1 hw1 locs hS => ?_)
  rcases hw1 with ⟨rfl, f1⟩ | ⟨rfl, f1⟩
  · have f1 : 0 ≤ vx.toInt ∧ vx.toInt < (mu 4 6).toInt ∧ (mu 4 6).toInt ≤ 7 := f1
    refine lv_if_ne (tgt := 13) hx hb dX11_beside_8 (by decide) (fun _ => ?_) (fun c => absurd c (by decide))
    refine lv_aload_n hx hb dX11_beside_13 rfl (lv_at hl 0 rfl) ?_
    refine va_get (D := (dC, dI)) (ci := 11) (v := .ref (ad 4)) (C := RX11) (T := TX11) (N := 11) hx hb hts (fun w h => List.mem_cons_of_mem _ (inG11 w h)) hown hK hP 0 (gX_0 cs ad mu) rfl 3 (by decide) (hts (.fieldLink RX11 30 "DearLetters" "town" "LDearLetters$Town;") (List.mem_cons_of_mem _ (lg_at 2 161 (by decide +kernel) rfl))) (fun _ h9 => h9) rfl dX11_beside_14 ?_
    refine lv_iload_n hx hb dX11_beside_17 rfl (lv_at hl 1 rfl) ?_
    refine lv_aload_n hx hb dX11_beside_18 rfl (lv_at hl 0 rfl) ?_
    refine va_get (D := (dC, dI)) (ci := 11) (v := .ref (ad 4)) (C := RX11) (T := TX11) (N := 11) hx hb hts (fun w h => List.mem_cons_of_mem _ (inG11 w h)) hown hK hP 0 (gX_0 cs ad mu) rfl 3 (by decide) (hts (.fieldLink RX11 30 "DearLetters" "town" "LDearLetters$Town;") (List.mem_cons_of_mem _ (lg_at 2 161 (by decide +kernel) rfl))) (fun _ h9 => h9) rfl dX11_beside_19 ?_
    refine va_get (D := (dC, dI)) (ci := 10) (v := .ref (ad 5)) (C := RX10) (T := TX10) (N := 8) hx hb hts (fun w h => List.mem_cons_of_mem _ (inG10 w h)) hown hK hP 4 (gX_4 cs ad mu) rfl 3 (by decide) (hts (.fieldLink RX11 166 "DearLetters$Town" "now" "LDearLetters$Standing;") (List.mem_cons_of_mem _ (lg_at 1 157 (by decide +kernel) rfl))) (fun _ h9 => h9) rfl dX11_beside_22 ?_
    refine va_get (D := (dC, dI)) (ci := 8) (v := .int (mu 5 2)) (C := RX8) (T := TX8) (N := 6) hx hb hts (fun w h => List.mem_cons_of_mem _ (inG8 w h)) hown hK hP 5 (gX_5 cs ad mu) rfl 2 (by decide) (hts (.fieldLink RX11 176 "DearLetters$Standing" "snow" "I") (List.mem_cons_of_mem _ (lg_at 1 118 (by decide +kernel) rfl))) (fun _ h9 => h9) rfl dX11_beside_25 ?_
    refine lv_topi (fun y2 ey2 => ?_)
    have by2 : y2.toInt = (mu 5 2).toInt := congrArg Int32.toInt ey2
    refine cr_i (va_runV (As := [.int vx, .int y2]) (rest := []) ⟨hx, hb, hml, hown, hts⟩ (sx_near l dC dI cs ad mu ok s.heap hP vx y2) (cwV 2 hts (wU_V (lg_at 3 84 (by decide +kernel) rfl) (lg_at 3 137 (by decide +kernel) rfl) (lg_at 3 82 (by decide +kernel) rfl) (lg_at 3 83 (by decide +kernel) rfl) (lg_at 1 2 (by decide +kernel) rfl)) rfl rfl rfl (by decide +kernel) ⟨Nat.le_of_ble_eq_true rfl, Nat.le_of_ble_eq_true rfl⟩) ⟨sz_c, va_recv hK hP (ci := 10) (q0 := 4) rfl (gX_4 cs ad mu), sz_m hK hz⟩ rfl rfl hl.1 rfl (lv_room (Nat.le_of_ble_eq_true rfl)) dX11_beside_28 ⟨Nat.zero_le _, Nat.zero_le _⟩) hS (fun r3 hw3 locs hS => ?_)
    exact W.iret (v := r3) hx hb hr (fun t ht hW => ⟨⟨r3, mu, rfl, ⟨ok, trivial⟩, by first | (subst ht; exact hP) | (rw [ht]; exact hP) | (show va_P (dC, dI) vwCl (wR 157 ad (EX cs ad) mu) t.heap; rw [ht]; exact hP)⟩, hS.F ht⟩) hS.2.2 dX11_beside_31
  · have f1 : vx.toInt < 0 ∨ (mu 4 6).toInt ≤ vx.toInt := f1
    refine lv_if_ne (tgt := 13) hx hb dX11_beside_8 (by decide) (fun c => absurd (by decide) c) (fun _ => ?_)
    refine lv_iconst (v := (-1)) hx hb dX11_beside_11 (by decide) ?_
    exact W.iret (v := (-1)) hx hb hr (fun t ht hW => ⟨⟨(-1), mu, rfl, ⟨ok, trivial⟩, by first | (subst ht; exact hP) | (rw [ht]; exact hP) | (show va_P (dC, dI) vwCl (wR 157 ad (EX cs ad) mu) t.heap; rw [ht]; exact hP)⟩, hS.F ht⟩) hS.2.2 dX11_beside_12
theorem dX11_asks_0 : decode cX11_asks 0 = .ok (.aload_n 0, 1) := by decide +kernel
theorem dX11_asks_1 : decode cX11_asks 1 = .ok (.getfield 30, 3) := by decide +kernel
theorem dX11_asks_4 : decode cX11_asks 4 = .ok (.iload_n 1, 1) := by decide +kernel
theorem dX11_asks_5 : decode cX11_asks 5 = .ok (.invokevirtual 142, 3) := by decide +kernel
theorem dX11_asks_8 : decode cX11_asks 8 = .ok (.ifCond .eq 14, 3) := by decide +kernel
theorem dX11_asks_11 : decode cX11_asks 11 = .ok (.iload_n 2, 1) := by decide +kernel
theorem dX11_asks_12 : decode cX11_asks 12 = .ok (.ifCond .lt 10, 3) := by decide +kernel
theorem dX11_asks_22 : decode cX11_asks 22 = .ok (.iconst (-1), 1) := by decide +kernel
theorem dX11_asks_23 : decode cX11_asks 23 = .ok (.ireturn, 1) := by decide +kernel
theorem dX11_asks_15 : decode cX11_asks 15 = .ok (.iload_n 2, 1) := by decide +kernel
theorem dX11_asks_16 : decode cX11_asks 16 = .ok (.sipush 999, 3) := by decide +kernel
theorem dX11_asks_19 : decode cX11_asks 19 = .ok (.if_icmp .le 5, 3) := by decide +kernel
theorem dX11_asks_24 : decode cX11_asks 24 = .ok (.aload_n 0, 1) := by decide +kernel
theorem dX11_asks_25 : decode cX11_asks 25 = .ok (.getfield 30, 3) := by decide +kernel
theorem dX11_asks_28 : decode cX11_asks 28 = .ok (.getfield 148, 3) := by decide +kernel
theorem dX11_asks_31 : decode cX11_asks 31 = .ok (.iload_n 1, 1) := by decide +kernel
theorem dX11_asks_32 : decode cX11_asks 32 = .ok (.iaload, 1) := by decide +kernel
theorem dX11_asks_33 : decode cX11_asks 33 = .ok (.iload_n 2, 1) := by decide +kernel
theorem dX11_asks_34 : decode cX11_asks 34 = .ok (.invokestatic 154, 3) := by decide +kernel
theorem dX11_asks_37 : decode cX11_asks 37 = .ok (.ireturn, 1) := by decide +kernel
set_option maxHeartbeats 4000000 in
set_option maxRecDepth 100000 in
/-- qx_asks -/
theorem qx_asks (l : Launch) (dC : Nat → ClassId) (dI : Nat → Nat → Nat) (cs : Nat → ClassId) (ad : Nat → Nat) (mu : Nat → Nat → Int32) (ok : okR loX hiX mu) (H : Heap) (hP : va_P (dC, dI) vwCl (wR 157 ad (EX cs ad) mu) H) (hD0 : va_D (fun _ => True) (wR 157 ad (EX cs ad) mu)) (vx : Int32) (vp : Int32) : Met l yX11_asks (wU yX11_asks cX11_asks 3 (some .int)) ({ frames := 1, cells := 0, slots := 0, locals := 21 }) (va_Pc [.ref (ad 0), .int vx, .int vp] (sz_P (dC, dI) vwCl (tyW cs) H)) (va_Qi (fun (z : Int32) (xi : Nat → Nat → Int32) => okR loX hiX xi ∧ True) (fun xi t => va_P (dC, dI) vwCl (wR 157 ad (EX cs ad) xi) t.heap) (va_A (wR 157 ad (EX cs ad) mu) H.size)) 0 0 (va_A (wR 157 ad (EX cs ad) mu) H.size) := by
  refine Met.ofW (cc := cX11_asks) (maxL := 3) (ret := (some .int)) (by decide) rfl ?_
  intro p e s m args below meth c s₁ B hml hv
  obtain ⟨rfl, hh, hK, hz⟩ := hv
  have hx := B.exec
  have hb := B.bytes
  have hr := B.returns
  have hts := atoms_spec (ws := (wU yX11_asks cX11_asks 3 (some .int))) B.pre
  have hown : s.vm.findClass RX11 = some m.cls := findClass_of_methodNamed B.named
  have hlocks := B.notSynchronized
  subst hh
  have hD := hD0.self (sz := s.heap.size)
  have hA : ∀ q : Nat, s.heap.size ≤ q → (va_A (wR 157 ad (EX cs ad) mu) s.heap.size) q := fun q h => Or.inr h
  have hS : va_S (va_A (wR 157 ad (EX cs ad) mu) s.heap.size) s.heap s.heap [] := va_S.rf
  have hl := lv_entry ([.ref (ad 0), .int vx, .int vp]) (n := 3) (Nat.le_of_ble_eq_true rfl)
  rw [lg_entry_eq]
  generalize (lg_sl ([.ref (ad 0), .int vx, .int vp]) ++ List.replicate (3 - (lg_sl ([.ref (ad 0), .int vx, .int vp])).length) Slot.unset).toArray = ls at hl ⊢
  have hl : lv_has ls 3 [(0, .ref (ad 0)), (1, .int vx), (2, .int vp)] := hl
  refine lv_aload_n hx hb dX11_asks_0 rfl (lv_at hl 0 rfl) ?_
  refine va_get (D := (dC, dI)) (ci := 11) (v := .ref (ad 4)) (C := RX11) (T := TX11) (N := 11) hx hb hts (fun w h => List.mem_cons_of_mem _ (inG11 w h)) hown hK hP 0 (gX_0 cs ad mu) rfl 3 (by decide) (hts (.fieldLink RX11 30 "DearLetters" "town" "LDearLetters$Town;") (List.mem_cons_of_mem _ (lg_at 2 161 (by decide +kernel) rfl))) (fun _ h9 => h9) rfl dX11_asks_1 ?_
  refine lv_iload_n hx hb dX11_asks_4 rfl (lv_at hl 1 rfl) ?_
  refine cr_i (va_runV (As := [.int vx]) (rest := []) ⟨hx, hb, hml, hown, hts⟩ (sx_has l dC dI cs ad mu ok s.heap hP vx) (cwV 1 hts (wU_V (lg_at 3 76 (by decide +kernel) rfl) (lg_at 3 73 (by decide +kernel) rfl) (lg_at 3 74 (by decide +kernel) rfl) (lg_at 3 75 (by decide +kernel) rfl) (lg_at 1 2 (by decide +kernel) rfl)) rfl rfl rfl (by decide +kernel) ⟨Nat.le_of_ble_eq_true rfl, Nat.le_of_ble_eq_true rfl⟩) ⟨sz_c, va_recv hK hP (ci := 10) (q0 := 4) rfl (gX_4 cs ad mu), sz_m hK hz⟩ rfl rfl hl.1 rfl (lv_room (Nat.le_of_ble_eq_true rfl)) dX11_asks_5 ⟨Nat.zero_le _, Nat.zero_le _⟩) hS (fun r1 hw1 locs hS => ?_)
  rcases hw1 with ⟨rfl, f1⟩ | ⟨rfl, f1⟩
  · have f1 : 0 ≤ vx.toInt ∧ vx.toInt < (mu 4 6).toInt ∧ (mu 4 6).toInt ≤ 7 := f1
    refine lv_if_eq (tgt := 22) hx hb dX11_asks_8 (by decide) (fun c => absurd c (by decide)) (fun _ => ?_)
    refine lv_iload_n hx hb dX11_asks_11 rfl (lv_at hl 2 rfl) ?_
    refine lv_if_lt (tgt := 22) hx hb dX11_asks_12 (by decide) (fun c_2 => ?_) (fun c_2 => ?_)
    · have c_2 : vp.toInt < 0 := il_lt c_2
      refine lv_iconst (v := (-1)) hx hb dX11_asks_22 (by decide) ?_
      exact W.iret (v := (-1)) hx hb hr (fun t ht hW => ⟨⟨(-1), mu, rfl, ⟨ok, trivial⟩, by first | (subst ht; exact hP) | (rw [ht]; exact hP) | (show va_P (dC, dI) vwCl (wR 157 ad (EX cs ad) mu) t.heap; rw [ht]; exact hP)⟩, hS.F ht⟩) hS.2.2 dX11_asks_23
    · have c_2 : 0 ≤ vp.toInt := il_nlt c_2
      refine lv_iload_n hx hb dX11_asks_15 rfl (lv_at hl 2 rfl) ?_
      refine lv_sipush (v := 999) hx hb dX11_asks_16 (by decide) ?_
      refine lv_icmp_le (tgt := 24) hx hb dX11_asks_19 (by decide) (fun c_3 => ?_) (fun c_3 => ?_)
      · have c_3 : vp.toInt ≤ 999 := il_le c_3
        refine lv_aload_n hx hb dX11_asks_24 rfl (lv_at hl 0 rfl) ?_
        refine va_get (D := (dC, dI)) (ci := 11) (v := .ref (ad 4)) (C := RX11) (T := TX11) (N := 11) hx hb hts (fun w h => List.mem_cons_of_mem _ (inG11 w h)) hown hK hP 0 (gX_0 cs ad mu) rfl 3 (by decide) (hts (.fieldLink RX11 30 "DearLetters" "town" "LDearLetters$Town;") (List.mem_cons_of_mem _ (lg_at 2 161 (by decide +kernel) rfl))) (fun _ h9 => h9) rfl dX11_asks_25 ?_
        refine va_get (D := (dC, dI)) (ci := 10) (v := .ref (ad 34)) (C := RX10) (T := TX10) (N := 8) hx hb hts (fun w h => List.mem_cons_of_mem _ (inG10 w h)) hown hK hP 4 (gX_4 cs ad mu) rfl 0 (by decide) (hts (.fieldLink RX11 148 "DearLetters$Town" "kinds" "[I") (List.mem_cons_of_mem _ (lg_at 1 147 (by decide +kernel) rfl))) (fun _ h9 => h9) rfl dX11_asks_28 ?_
        refine lv_iload_n hx hb dX11_asks_31 rfl (lv_at hl 1 rfl) ?_
        refine va_iald hx hb hK hP 34 0 (gX_34 cs ad mu) rfl (show vp_in vx 7 from vi_of (by omega) (by omega)) dX11_asks_32 ?_
        refine lv_topi (fun y4 ey4 => ?_)
        have by4 : y4.toInt = (mu 34 vx.toNatClampNeg).toInt := congrArg Int32.toInt ey4
        refine lv_iload_n hx hb dX11_asks_33 rfl (lv_at hl 2 rfl) ?_
        refine cr_i (va_runS (As := [.int y4, .int vp]) (rest := []) ⟨hx, hb, hml, hown, hts⟩ (sx_priceAsked l dC dI (tyW cs) s.heap y4 vp) (va_cwS 2 hts (wU_S (lg_at 3 107 (by decide +kernel) rfl) (lg_at 3 105 (by decide +kernel) rfl) (lg_at 3 106 (by decide +kernel) rfl) (lg_at 1 1 (by decide +kernel) rfl)) rfl rfl rfl (by decide +kernel) ⟨Nat.le_of_ble_eq_true rfl, Nat.le_of_ble_eq_true rfl⟩) ⟨sz_c, sz_m hK hz⟩ rfl rfl hl.1 rfl (lv_room (Nat.le_of_ble_eq_true rfl)) dX11_asks_34 ⟨Nat.zero_le _, Nat.zero_le _⟩) hS (fun r5 hw5 locs hS => ?_)
        exact W.iret (v := r5) hx hb hr (fun t ht hW => ⟨⟨r5, mu, rfl, ⟨ok, trivial⟩, by first | (subst ht; exact hP) | (rw [ht]; exact hP) | (show va_P (dC, dI) vwCl (wR 157 ad (EX cs ad) mu) t.heap; rw [ht]; exact hP)⟩, hS.F ht⟩) hS.2.2 dX11_asks_37
      · have c_3 : 999 < vp.toInt := il_nle c_3
        refine lv_iconst (v := (-1)) hx hb dX11_asks_22 (by decide) ?_
        exact W.iret (v := (-1)) hx hb hr (fun t ht hW => ⟨⟨(-1), mu, rfl, ⟨ok, trivial⟩, by first | (subst ht; exact hP) | (rw [ht]; exact hP) | (show va_P (dC, dI) vwCl (wR 157 ad (EX cs ad) mu) t.heap; rw [ht]; exact hP)⟩, hS.F ht⟩) hS.2.2 dX11_asks_23
  · have f1 : vx.toInt < 0 ∨ (mu 4 6).toInt ≤ vx.toInt := f1
    refine lv_if_eq (tgt := 22) hx hb dX11_asks_8 (by decide) (fun _ => ?_) (fun c => absurd (by decide) c)
    refine lv_iconst (v := (-1)) hx hb dX11_asks_22 (by decide) ?_
    exact W.iret (v := (-1)) hx hb hr (fun t ht hW => ⟨⟨(-1), mu, rfl, ⟨ok, trivial⟩, by first | (subst ht; exact hP) | (rw [ht]; exact hP) | (show va_P (dC, dI) vwCl (wR 157 ad (EX cs ad) mu) t.heap; rw [ht]; exact hP)⟩, hS.F ht⟩) hS.2.2 dX11_asks_23
theorem dX11_where_0 : decode cX11_where 0 = .ok (.aload_n 0, 1) := by decide +kernel
theorem dX11_where_1 : decode cX11_where 1 = .ok (.iload_n 1, 1) := by decide +kernel
theorem dX11_where_2 : decode cX11_where 2 = .ok (.iconst 0, 1) := by decide +kernel
theorem dX11_where_3 : decode cX11_where 3 = .ok (.invokevirtual 201, 3) := by decide +kernel
theorem dX11_where_6 : decode cX11_where 6 = .ok (.istore_n 2, 1) := by decide +kernel
theorem dX11_where_7 : decode cX11_where 7 = .ok (.iload_n 2, 1) := by decide +kernel
theorem dX11_where_8 : decode cX11_where 8 = .ok (.ifCond .eq 5, 3) := by decide +kernel
theorem dX11_where_13 : decode cX11_where 13 = .ok (.aload_n 0, 1) := by decide +kernel
theorem dX11_where_14 : decode cX11_where 14 = .ok (.aload_n 0, 1) := by decide +kernel
theorem dX11_where_15 : decode cX11_where 15 = .ok (.getfield 30, 3) := by decide +kernel
theorem dX11_where_18 : decode cX11_where 18 = .ok (.getfield 166, 3) := by decide +kernel
theorem dX11_where_21 : decode cX11_where 21 = .ok (.getfield 188, 3) := by decide +kernel
theorem dX11_where_24 : decode cX11_where 24 = .ok (.iload_n 1, 1) := by decide +kernel
theorem dX11_where_25 : decode cX11_where 25 = .ok (.aaload, 1) := by decide +kernel
theorem dX11_where_26 : decode cX11_where 26 = .ok (.getfield 222, 3) := by decide +kernel
theorem dX11_where_29 : decode cX11_where 29 = .ok (.putfield 88, 3) := by decide +kernel
theorem dX11_where_32 : decode cX11_where 32 = .ok (.aload_n 0, 1) := by decide +kernel
theorem dX11_where_33 : decode cX11_where 33 = .ok (.getfield 30, 3) := by decide +kernel
theorem dX11_where_36 : decode cX11_where 36 = .ok (.getfield 166, 3) := by decide +kernel
theorem dX11_where_39 : decode cX11_where 39 = .ok (.getfield 188, 3) := by decide +kernel
theorem dX11_where_42 : decode cX11_where 42 = .ok (.iload_n 1, 1) := by decide +kernel
theorem dX11_where_43 : decode cX11_where 43 = .ok (.aaload, 1) := by decide +kernel
theorem dX11_where_44 : decode cX11_where 44 = .ok (.getfield 225, 3) := by decide +kernel
theorem dX11_where_47 : decode cX11_where 47 = .ok (.ireturn, 1) := by decide +kernel
theorem dX11_where_11 : decode cX11_where 11 = .ok (.iload_n 2, 1) := by decide +kernel
theorem dX11_where_12 : decode cX11_where 12 = .ok (.ireturn, 1) := by decide +kernel
set_option maxHeartbeats 4000000 in
set_option maxRecDepth 100000 in
/-- qx_where -/
theorem qx_where (l : Launch) (dC : Nat → ClassId) (dI : Nat → Nat → Nat) (cs : Nat → ClassId) (ad : Nat → Nat) (mu : Nat → Nat → Int32) (ok : okR loX hiX mu) (H : Heap) (hP : va_P (dC, dI) vwCl (wR 157 ad (EX cs ad) mu) H) (hD0 : va_D (fun _ => True) (wR 157 ad (EX cs ad) mu)) (vk : Int32) : Met l yX11_where (wU yX11_where cX11_where 3 (some .int)) ({ frames := 2, cells := 0, slots := 0, locals := 43 }) (va_Pc [.ref (ad 0), .int vk] (sz_P (dC, dI) vwCl (tyW cs) H)) (va_Qi (fun (z : Int32) (xi : Nat → Nat → Int32) => okR loX hiX xi ∧ True) (fun xi t => va_P (dC, dI) vwCl (wR 157 ad (EX cs ad) xi) t.heap) (va_A (wR 157 ad (EX cs ad) mu) H.size)) 0 0 (va_A (wR 157 ad (EX cs ad) mu) H.size) := by
  refine Met.ofW (cc := cX11_where) (maxL := 3) (ret := (some .int)) (by decide) rfl ?_
  intro p e s m args below meth c s₁ B hml hv
  obtain ⟨rfl, hh, hK, hz⟩ := hv
  have hx := B.exec
  have hb := B.bytes
  have hr := B.returns
  have hts := atoms_spec (ws := (wU yX11_where cX11_where 3 (some .int))) B.pre
  have hown : s.vm.findClass RX11 = some m.cls := findClass_of_methodNamed B.named
  have hlocks := B.notSynchronized
  subst hh
  have hD := hD0.self (sz := s.heap.size)
  have hA : ∀ q : Nat, s.heap.size ≤ q → (va_A (wR 157 ad (EX cs ad) mu) s.heap.size) q := fun q h => Or.inr h
  have hS : va_S (va_A (wR 157 ad (EX cs ad) mu) s.heap.size) s.heap s.heap [] := va_S.rf
  have hl := lv_entry ([.ref (ad 0), .int vk]) (n := 3) (Nat.le_of_ble_eq_true rfl)
  rw [lg_entry_eq]
  generalize (lg_sl ([.ref (ad 0), .int vk]) ++ List.replicate (3 - (lg_sl ([.ref (ad 0), .int vk])).length) Slot.unset).toArray = ls at hl ⊢
  have hl : lv_has ls 3 [(0, .ref (ad 0)), (1, .int vk)] := hl
  refine lv_aload_n hx hb dX11_where_0 rfl (lv_at hl 0 rfl) ?_
  refine lv_iload_n hx hb dX11_where_1 rfl (lv_at hl 1 rfl) ?_
  refine lv_iconst (v := 0) hx hb dX11_where_2 (by decide) ?_
  have hFc := fr_all (wR_D mu hD) hS hA
  refine va_calli (va_runV (As := [.int vk, .int 0]) (rest := []) ⟨hx, hb, hml, hown, hts⟩ (sx_refusedLetter l dC dI cs ad mu ok s.heap hP ((wR_D mu hD).weaken (fun _ _ _ _ => trivial)) vk 0) (cwV 2 hts (wU_V (lg_at 3 157 (by decide +kernel) rfl) (lg_at 3 154 (by decide +kernel) rfl) (lg_at 3 156 (by decide +kernel) rfl) (lg_at 0 8 (by decide +kernel) rfl) (lg_at 1 1 (by decide +kernel) rfl)) rfl rfl rfl (by decide +kernel) ⟨Nat.le_of_ble_eq_true rfl, Nat.le_of_ble_eq_true rfl⟩) ⟨sz_c, va_recv hK hP (ci := 11) (q0 := 0) rfl (gX_0 cs ad mu), sz_m hK hz⟩ rfl rfl hl.1 rfl (lv_room (Nat.le_of_ble_eq_true rfl)) dX11_where_3 ⟨Nat.zero_le _, Nat.zero_le _⟩) hS (fun q _ h => hFc q h) hFc (fun r1 xi1 t H1 locs ht hvm hw1 hB hz1 hk1 hS => ?_)
  have hP : va_P (dC, dI) vwCl (wR 157 ad (EX cs ad) xi1) H1 := by rw [← ht]; exact hB
  rcases hw1 with ⟨rfl, hxi, f1⟩ | ⟨z1, ok⟩
  · have hP : va_P (dC, dI) vwCl (wR 157 ad (EX cs ad) mu) H1 := by rw [← hxi]; exact hP
    refine lv_istore_n (lv' := [(2, .int 0), (0, .ref (ad 0)), (1, .int vk)]) hx hb dX11_where_6 rfl hl (by decide) rfl (fun ls hl => ?_)
    refine lv_iload_n hx hb dX11_where_7 rfl (lv_at hl 0 rfl) ?_
    refine lv_if_eq (tgt := 13) hx hb dX11_where_8 (by decide) (fun _ => ?_) (fun c => absurd (by decide) c)
    refine lv_aload_n hx hb dX11_where_13 rfl (lv_at hl 1 rfl) ?_
    refine lv_aload_n hx hb dX11_where_14 rfl (lv_at hl 1 rfl) ?_
    refine va_get (D := (dC, dI)) (ci := 11) (v := .ref (ad 4)) (C := RX11) (T := TX11) (N := 11) hx hb hts (fun w h => List.mem_cons_of_mem _ (inG11 w h)) hown hK hP 0 (gX_0 cs ad mu) rfl 3 (by decide) (hts (.fieldLink RX11 30 "DearLetters" "town" "LDearLetters$Town;") (List.mem_cons_of_mem _ (lg_at 2 161 (by decide +kernel) rfl))) (fun _ h9 => h9) rfl dX11_where_15 ?_
    refine va_get (D := (dC, dI)) (ci := 10) (v := .ref (ad 5)) (C := RX10) (T := TX10) (N := 8) hx hb hts (fun w h => List.mem_cons_of_mem _ (inG10 w h)) hown hK hP 4 (gX_4 cs ad mu) rfl 3 (by decide) (hts (.fieldLink RX11 166 "DearLetters$Town" "now" "LDearLetters$Standing;") (List.mem_cons_of_mem _ (lg_at 1 157 (by decide +kernel) rfl))) (fun _ h9 => h9) rfl dX11_where_18 ?_
    refine va_get (D := (dC, dI)) (ci := 8) (v := .ref (ad 47)) (C := RX8) (T := TX8) (N := 6) hx hb hts (fun w h => List.mem_cons_of_mem _ (inG8 w h)) hown hK hP 5 (gX_5 cs ad mu) rfl 1 (by decide) (hts (.fieldLink RX11 188 "DearLetters$Standing" "letters" "[LDearLetters$Letter;") (List.mem_cons_of_mem _ (lg_at 1 112 (by decide +kernel) rfl))) (fun _ h9 => h9) rfl dX11_where_21 ?_
    refine lv_iload_n hx hb dX11_where_24 rfl (lv_at hl 2 rfl) ?_
    refine va_aldq hx hb hK hP 47 5 (gX_47 cs ad mu) rfl (show vp_in vk 4 from vi_of (by omega) (by omega)) dX11_where_25 ?_
    have hvk_c := tC_of (v := vk) (by omega)
    refine lq_v (.ref (ad (61 + vk.toNatClampNeg))) rfl ?_
    refine va_get (D := (dC, dI)) (ci := 3) (v := .int (mu (61 + vk.toNatClampNeg) 6)) (C := RX3) (T := TX3) (N := 10) hx hb hts (fun w h => List.mem_cons_of_mem _ (inG3 w h)) hown hK hP (61 + vk.toNatClampNeg) (gX_letter cs ad mu (61 + vk.toNatClampNeg) (by omega) (by omega)) rfl 6 (by decide) (hts (.fieldLink RX11 222 "DearLetters$Letter" "paid" "I") (List.mem_cons_of_mem _ (lg_at 1 70 (by decide +kernel) rfl))) (fun _ h9 => h9) rfl dX11_where_26 ?_
    refine lv_topi (fun y2 ey2 => ?_)
    have by2 : y2.toInt = (mu (61 + vk.toNatClampNeg) 6).toInt := congrArg Int32.toInt ey2
    refine va_put (D := (dC, dI)) (ci := 11) (v := .int y2) (ty := .int) (C := RX11) (T := TX11) (N := 11) hx hb hts (fun w h => List.mem_cons_of_mem _ (inG11 w h)) tyX11 tyX11_ok nmX11 hown hK hP (wR_D mu hD) hS 0 (gX_0 cs ad mu) rfl 10 (by decide) (hts (.fieldLink RX11 88 "DearLetters" "told" "I") (List.mem_cons_of_mem _ (lg_at 2 168 (by decide +kernel) rfl))) (fun _ h9 => h9) rfl (by decide +kernel) (by first | rfl | decide) (by first | rfl | decide) (Nat.le_of_ble_eq_true rfl) dX11_where_29 (fun H locs hP _ hS => ?_)
    have hP := wR_P (upd (mu 0) 10 y2) hP (rfl)
    have ok := okR_up ok 0 10 y2 (by first | exact tI_lo _ | (unfold loX; simp (discharger := omega) only [if_pos, if_neg, and_true, true_and]; exact tI_lo _)) (by first | exact tI_hi _ | (unfold hiX; simp (discharger := omega) only [if_pos, if_neg, and_true, true_and]; exact tI_hi _))
    refine lv_aload_n hx hb dX11_where_32 rfl (lv_at hl 1 rfl) ?_
    refine va_get (D := (dC, dI)) (ci := 11) (v := .ref (ad 4)) (C := RX11) (T := TX11) (N := 11) hx hb hts (fun w h => List.mem_cons_of_mem _ (inG11 w h)) hown hK hP 0 (gX_0 cs ad (va_up mu 0 (upd (mu 0) 10 y2))) rfl 3 (by decide) (hts (.fieldLink RX11 30 "DearLetters" "town" "LDearLetters$Town;") (List.mem_cons_of_mem _ (lg_at 2 161 (by decide +kernel) rfl))) (fun _ h9 => h9) rfl dX11_where_33 ?_
    refine va_get (D := (dC, dI)) (ci := 10) (v := .ref (ad 5)) (C := RX10) (T := TX10) (N := 8) hx hb hts (fun w h => List.mem_cons_of_mem _ (inG10 w h)) hown hK hP 4 (gX_4 cs ad (va_up mu 0 (upd (mu 0) 10 y2))) rfl 3 (by decide) (hts (.fieldLink RX11 166 "DearLetters$Town" "now" "LDearLetters$Standing;") (List.mem_cons_of_mem _ (lg_at 1 157 (by decide +kernel) rfl))) (fun _ h9 => h9) rfl dX11_where_36 ?_
    refine va_get (D := (dC, dI)) (ci := 8) (v := .ref (ad 47)) (C := RX8) (T := TX8) (N := 6) hx hb hts (fun w h => List.mem_cons_of_mem _ (inG8 w h)) hown hK hP 5 (gX_5 cs ad (va_up mu 0 (upd (mu 0) 10 y2))) rfl 1 (by decide) (hts (.fieldLink RX11 188 "DearLetters$Standing" "letters" "[LDearLetters$Letter;") (List.mem_cons_of_mem _ (lg_at 1 112 (by decide +kernel) rfl))) (fun _ h9 => h9) rfl dX11_where_39 ?_
    refine lv_iload_n hx hb dX11_where_42 rfl (lv_at hl 2 rfl) ?_
    refine va_aldq hx hb hK hP 47 5 (gX_47 cs ad (va_up mu 0 (upd (mu 0) 10 y2))) rfl (show vp_in vk 4 from vi_of (by omega) (by omega)) dX11_where_43 ?_
    have hvk_c := tC_of (v := vk) (by omega)
    refine lq_v (.ref (ad (61 + vk.toNatClampNeg))) rfl ?_
    refine va_get (D := (dC, dI)) (ci := 3) (v := .int ((va_up mu 0 (upd (mu 0) 10 y2)) (61 + vk.toNatClampNeg) 5)) (C := RX3) (T := TX3) (N := 10) hx hb hts (fun w h => List.mem_cons_of_mem _ (inG3 w h)) hown hK hP (61 + vk.toNatClampNeg) (gX_letter cs ad (va_up mu 0 (upd (mu 0) 10 y2)) (61 + vk.toNatClampNeg) (by omega) (by omega)) rfl 5 (by decide) (hts (.fieldLink RX11 225 "DearLetters$Letter" "holder" "I") (List.mem_cons_of_mem _ (lg_at 1 65 (by decide +kernel) rfl))) (fun _ h9 => h9) rfl dX11_where_44 ?_
    refine lv_topi (fun y3 ey3 => ?_)
    have by3 : y3.toInt = ((va_up mu 0 (upd (mu 0) 10 y2)) (61 + vk.toNatClampNeg) 5).toInt := congrArg Int32.toInt ey3
    have gy3 : 0 ≤ y3.toInt ∧ y3.toInt ≤ 6 := by rw [ey3]; have h9 := ok (61 + vk.toNatClampNeg) 5; unfold loX hiX at h9; simp (discharger := omega) only [if_pos, if_neg, and_true, true_and] at h9; exact h9
    exact W.iret (v := y3) hx hb hr (fun t ht hW => ⟨⟨y3, (va_up mu 0 (upd (mu 0) 10 y2)), rfl, ⟨ok, trivial⟩, by first | (subst ht; exact hP) | (rw [ht]; exact hP) | (show va_P (dC, dI) vwCl (wR 157 ad (EX cs ad) (va_up mu 0 (upd (mu 0) 10 y2))) t.heap; rw [ht]; exact hP)⟩, hS.F ht⟩) hS.2.2 dX11_where_47
  · skip
    refine lv_istore_n (lv' := [(2, .int r1), (0, .ref (ad 0)), (1, .int vk)]) hx hb dX11_where_6 rfl hl (by decide) rfl (fun ls hl => ?_)
    refine lv_iload_n hx hb dX11_where_7 rfl (lv_at hl 0 rfl) ?_
    refine lv_if_eq (tgt := 13) hx hb dX11_where_8 (by decide) (fun c_4 => by have c_4 : r1.toInt = 0 := il_eq c_4; exfalso; omega) (fun c_4 => ?_)
    have c_4 : ¬ r1.toInt = 0 := il_ne c_4
    refine lv_iload_n hx hb dX11_where_11 rfl (lv_at hl 0 rfl) ?_
    exact W.iret (v := r1) hx hb hr (fun t ht hW => ⟨⟨r1, xi1, rfl, ⟨ok, trivial⟩, by first | (subst ht; exact hP) | (rw [ht]; exact hP) | (show va_P (dC, dI) vwCl (wR 157 ad (EX cs ad) xi1) t.heap; rw [ht]; exact hP)⟩, hS.F ht⟩) hS.2.2 dX11_where_12
theorem dX11_asked_0 : decode cX11_asked 0 = .ok (.aload_n 0, 1) := by decide +kernel
theorem dX11_asked_1 : decode cX11_asked 1 = .ok (.getfield 88, 3) := by decide +kernel
theorem dX11_asked_4 : decode cX11_asked 4 = .ok (.ireturn, 1) := by decide +kernel
set_option maxHeartbeats 4000000 in
set_option maxRecDepth 100000 in
/-- qx_asked -/
theorem qx_asked (l : Launch) (dC : Nat → ClassId) (dI : Nat → Nat → Nat) (cs : Nat → ClassId) (ad : Nat → Nat) (mu : Nat → Nat → Int32) (ok : okR loX hiX mu) (H : Heap) (hP : va_P (dC, dI) vwCl (wR 157 ad (EX cs ad) mu) H) (hD0 : va_D (fun _ => True) (wR 157 ad (EX cs ad) mu)) : Met l yX11_asked (wU yX11_asked cX11_asked 1 (some .int)) ({ frames := 0, cells := 0, slots := 0, locals := 0 }) (va_Pc [.ref (ad 0)] (sz_P (dC, dI) vwCl (tyW cs) H)) (va_Qi (fun (z : Int32) (xi : Nat → Nat → Int32) => okR loX hiX xi ∧ True) (fun xi t => va_P (dC, dI) vwCl (wR 157 ad (EX cs ad) xi) t.heap) (va_A (wR 157 ad (EX cs ad) mu) H.size)) 0 0 (va_A (wR 157 ad (EX cs ad) mu) H.size) := by
  refine Met.ofW (cc := cX11_asked) (maxL := 1) (ret := (some .int)) (by decide) rfl ?_
  intro p e s m args below meth c s₁ B hml hv
  obtain ⟨rfl, hh, hK, hz⟩ := hv
  have hx := B.exec
  have hb := B.bytes
  have hr := B.returns
  have hts := atoms_spec (ws := (wU yX11_asked cX11_asked 1 (some .int))) B.pre
  have hown : s.vm.findClass RX11 = some m.cls := findClass_of_methodNamed B.named
  have hlocks := B.notSynchronized
  subst hh
  have hD := hD0.self (sz := s.heap.size)
  have hA : ∀ q : Nat, s.heap.size ≤ q → (va_A (wR 157 ad (EX cs ad) mu) s.heap.size) q := fun q h => Or.inr h
  have hS : va_S (va_A (wR 157 ad (EX cs ad) mu) s.heap.size) s.heap s.heap [] := va_S.rf
  have hl := lv_entry ([.ref (ad 0)]) (n := 1) (Nat.le_of_ble_eq_true rfl)
  rw [lg_entry_eq]
  generalize (lg_sl ([.ref (ad 0)]) ++ List.replicate (1 - (lg_sl ([.ref (ad 0)])).length) Slot.unset).toArray = ls at hl ⊢
  have hl : lv_has ls 1 [(0, .ref (ad 0))] := hl
  refine lv_aload_n hx hb dX11_asked_0 rfl (lv_at hl 0 rfl) ?_
  refine va_get (D := (dC, dI)) (ci := 11) (v := .int (mu 0 10)) (C := RX11) (T := TX11) (N := 11) hx hb hts (fun w h => List.mem_cons_of_mem _ (inG11 w h)) hown hK hP 0 (gX_0 cs ad mu) rfl 10 (by decide) (hts (.fieldLink RX11 88 "DearLetters" "told" "I") (List.mem_cons_of_mem _ (lg_at 2 168 (by decide +kernel) rfl))) (fun _ h9 => h9) rfl dX11_asked_1 ?_
  refine lv_topi (fun y1 ey1 => ?_)
  have by1 : y1.toInt = (mu 0 10).toInt := congrArg Int32.toInt ey1
  exact W.iret (v := y1) hx hb hr (fun t ht hW => ⟨⟨y1, mu, rfl, ⟨ok, trivial⟩, by first | (subst ht; exact hP) | (rw [ht]; exact hP) | (show va_P (dC, dI) vwCl (wR 157 ad (EX cs ad) mu) t.heap; rw [ht]; exact hP)⟩, hS.F ht⟩) hS.2.2 dX11_asked_4
theorem dX11_finding_0 : decode cX11_finding 0 = .ok (.aload_n 0, 1) := by decide +kernel
theorem dX11_finding_1 : decode cX11_finding 1 = .ok (.getfield 366, 3) := by decide +kernel
theorem dX11_finding_4 : decode cX11_finding 4 = .ok (.ireturn, 1) := by decide +kernel
set_option maxHeartbeats 4000000 in
set_option maxRecDepth 100000 in
/-- qx_finding -/
theorem qx_finding (l : Launch) (dC : Nat → ClassId) (dI : Nat → Nat → Nat) (cs : Nat → ClassId) (ad : Nat → Nat) (mu : Nat → Nat → Int32) (ok : okR loX hiX mu) (H : Heap) (hP : va_P (dC, dI) vwCl (wR 157 ad (EX cs ad) mu) H) (hD0 : va_D (fun _ => True) (wR 157 ad (EX cs ad) mu)) : Met l yX11_finding (wU yX11_finding cX11_finding 1 (some .int)) ({ frames := 0, cells := 0, slots := 0, locals := 0 }) (va_Pc [.ref (ad 0)] (sz_P (dC, dI) vwCl (tyW cs) H)) (va_Qi (fun (z : Int32) (xi : Nat → Nat → Int32) => okR loX hiX xi ∧ True) (fun xi t => va_P (dC, dI) vwCl (wR 157 ad (EX cs ad) xi) t.heap) (va_A (wR 157 ad (EX cs ad) mu) H.size)) 0 0 (va_A (wR 157 ad (EX cs ad) mu) H.size) := by
  refine Met.ofW (cc := cX11_finding) (maxL := 1) (ret := (some .int)) (by decide) rfl ?_
  intro p e s m args below meth c s₁ B hml hv
  obtain ⟨rfl, hh, hK, hz⟩ := hv
  have hx := B.exec
  have hb := B.bytes
  have hr := B.returns
  have hts := atoms_spec (ws := (wU yX11_finding cX11_finding 1 (some .int))) B.pre
  have hown : s.vm.findClass RX11 = some m.cls := findClass_of_methodNamed B.named
  have hlocks := B.notSynchronized
  subst hh
  have hD := hD0.self (sz := s.heap.size)
  have hA : ∀ q : Nat, s.heap.size ≤ q → (va_A (wR 157 ad (EX cs ad) mu) s.heap.size) q := fun q h => Or.inr h
  have hS : va_S (va_A (wR 157 ad (EX cs ad) mu) s.heap.size) s.heap s.heap [] := va_S.rf
  have hl := lv_entry ([.ref (ad 0)]) (n := 1) (Nat.le_of_ble_eq_true rfl)
  rw [lg_entry_eq]
  generalize (lg_sl ([.ref (ad 0)]) ++ List.replicate (1 - (lg_sl ([.ref (ad 0)])).length) Slot.unset).toArray = ls at hl ⊢
  have hl : lv_has ls 1 [(0, .ref (ad 0))] := hl
  refine lv_aload_n hx hb dX11_finding_0 rfl (lv_at hl 0 rfl) ?_
  refine va_get (D := (dC, dI)) (ci := 11) (v := .int (mu 0 9)) (C := RX11) (T := TX11) (N := 11) hx hb hts (fun w h => List.mem_cons_of_mem _ (inG11 w h)) hown hK hP 0 (gX_0 cs ad mu) rfl 9 (by decide) (hts (.fieldLink RX11 366 "DearLetters" "latest" "I") (List.mem_cons_of_mem _ (lg_at 2 167 (by decide +kernel) rfl))) (fun _ h9 => h9) rfl dX11_finding_1 ?_
  refine lv_topi (fun y1 ey1 => ?_)
  have by1 : y1.toInt = (mu 0 9).toInt := congrArg Int32.toInt ey1
  exact W.iret (v := y1) hx hb hr (fun t ht hW => ⟨⟨y1, mu, rfl, ⟨ok, trivial⟩, by first | (subst ht; exact hP) | (rw [ht]; exact hP) | (show va_P (dC, dI) vwCl (wR 157 ad (EX cs ad) mu) t.heap; rw [ht]; exact hP)⟩, hS.F ht⟩) hS.2.2 dX11_finding_4
theorem dX11_findings_0 : decode cX11_findings 0 = .ok (.iload_n 1, 1) := by decide +kernel
theorem dX11_findings_1 : decode cX11_findings 1 = .ok (.iconst 1, 1) := by decide +kernel
theorem dX11_findings_2 : decode cX11_findings 2 = .ok (.if_icmp .lt 8, 3) := by decide +kernel
theorem dX11_findings_10 : decode cX11_findings 10 = .ok (.iconst (-1), 1) := by decide +kernel
theorem dX11_findings_11 : decode cX11_findings 11 = .ok (.ireturn, 1) := by decide +kernel
theorem dX11_findings_5 : decode cX11_findings 5 = .ok (.iload_n 1, 1) := by decide +kernel
theorem dX11_findings_6 : decode cX11_findings 6 = .ok (.iconst 5, 1) := by decide +kernel
theorem dX11_findings_7 : decode cX11_findings 7 = .ok (.if_icmp .le 5, 3) := by decide +kernel
theorem dX11_findings_12 : decode cX11_findings 12 = .ok (.aload_n 0, 1) := by decide +kernel
theorem dX11_findings_13 : decode cX11_findings 13 = .ok (.getfield 62, 3) := by decide +kernel
theorem dX11_findings_16 : decode cX11_findings 16 = .ok (.iload_n 1, 1) := by decide +kernel
theorem dX11_findings_17 : decode cX11_findings 17 = .ok (.iaload, 1) := by decide +kernel
theorem dX11_findings_18 : decode cX11_findings 18 = .ok (.ireturn, 1) := by decide +kernel
set_option maxHeartbeats 4000000 in
set_option maxRecDepth 100000 in
/-- qx_findings -/
theorem qx_findings (l : Launch) (dC : Nat → ClassId) (dI : Nat → Nat → Nat) (cs : Nat → ClassId) (ad : Nat → Nat) (mu : Nat → Nat → Int32) (ok : okR loX hiX mu) (H : Heap) (hP : va_P (dC, dI) vwCl (wR 157 ad (EX cs ad) mu) H) (hD0 : va_D (fun _ => True) (wR 157 ad (EX cs ad) mu)) (vf : Int32) : Met l yX11_findings (wU yX11_findings cX11_findings 2 (some .int)) ({ frames := 0, cells := 0, slots := 0, locals := 0 }) (va_Pc [.ref (ad 0), .int vf] (sz_P (dC, dI) vwCl (tyW cs) H)) (va_Qi (fun (z : Int32) (xi : Nat → Nat → Int32) => okR loX hiX xi ∧ True) (fun xi t => va_P (dC, dI) vwCl (wR 157 ad (EX cs ad) xi) t.heap) (va_A (wR 157 ad (EX cs ad) mu) H.size)) 0 0 (va_A (wR 157 ad (EX cs ad) mu) H.size) := by
  refine Met.ofW (cc := cX11_findings) (maxL := 2) (ret := (some .int)) (by decide) rfl ?_
  intro p e s m args below meth c s₁ B hml hv
  obtain ⟨rfl, hh, hK, hz⟩ := hv
  have hx := B.exec
  have hb := B.bytes
  have hr := B.returns
  have hts := atoms_spec (ws := (wU yX11_findings cX11_findings 2 (some .int))) B.pre
  have hown : s.vm.findClass RX11 = some m.cls := findClass_of_methodNamed B.named
  have hlocks := B.notSynchronized
  subst hh
  have hD := hD0.self (sz := s.heap.size)
  have hA : ∀ q : Nat, s.heap.size ≤ q → (va_A (wR 157 ad (EX cs ad) mu) s.heap.size) q := fun q h => Or.inr h
  have hS : va_S (va_A (wR 157 ad (EX cs ad) mu) s.heap.size) s.heap s.heap [] := va_S.rf
  have hl := lv_entry ([.ref (ad 0), .int vf]) (n := 2) (Nat.le_of_ble_eq_true rfl)
  rw [lg_entry_eq]
  generalize (lg_sl ([.ref (ad 0), .int vf]) ++ List.replicate (2 - (lg_sl ([.ref (ad 0), .int vf])).length) Slot.unset).toArray = ls at hl ⊢
  have hl : lv_has ls 2 [(0, .ref (ad 0)), (1, .int vf)] := hl
  refine lv_iload_n hx hb dX11_findings_0 rfl (lv_at hl 1 rfl) ?_
  refine lv_iconst (v := 1) hx hb dX11_findings_1 (by decide) ?_
  refine lv_icmp_lt (tgt := 10) hx hb dX11_findings_2 (by decide) (fun c_1 => ?_) (fun c_1 => ?_)
  · have c_1 : vf.toInt < 1 := il_lt c_1
    refine lv_iconst (v := (-1)) hx hb dX11_findings_10 (by decide) ?_
    exact W.iret (v := (-1)) hx hb hr (fun t ht hW => ⟨⟨(-1), mu, rfl, ⟨ok, trivial⟩, by first | (subst ht; exact hP) | (rw [ht]; exact hP) | (show va_P (dC, dI) vwCl (wR 157 ad (EX cs ad) mu) t.heap; rw [ht]; exact hP)⟩, hS.F ht⟩) hS.2.2 dX11_findings_11
  · have c_1 : 1 ≤ vf.toInt := il_nlt c_1
    refine lv_iload_n hx hb dX11_findings_5 rfl (lv_at hl 1 rfl) ?_
    refine lv_iconst (v := 5) hx hb dX11_findings_6 (by decide) ?_
    refine lv_icmp_le (tgt := 12) hx hb dX11_findings_7 (by decide) (fun c_2 => ?_) (fun c_2 => ?_)
    · have c_2 : vf.toInt ≤ 5 := il_le c_2
      refine lv_aload_n hx hb dX11_findings_12 rfl (lv_at hl 0 rfl) ?_
      refine va_get (D := (dC, dI)) (ci := 11) (v := .ref (ad 7)) (C := RX11) (T := TX11) (N := 11) hx hb hts (fun w h => List.mem_cons_of_mem _ (inG11 w h)) hown hK hP 0 (gX_0 cs ad mu) rfl 8 (by decide) (hts (.fieldLink RX11 62 "DearLetters" "tally" "[I") (List.mem_cons_of_mem _ (lg_at 2 166 (by decide +kernel) rfl))) (fun _ h9 => h9) rfl dX11_findings_13 ?_
      refine lv_iload_n hx hb dX11_findings_16 rfl (lv_at hl 1 rfl) ?_
      refine va_iald hx hb hK hP 7 0 (gX_7 cs ad mu) rfl (show vp_in vf 6 from vi_of (by omega) (by omega)) dX11_findings_17 ?_
      refine lv_topi (fun y3 ey3 => ?_)
      have by3 : y3.toInt = (mu 7 vf.toNatClampNeg).toInt := congrArg Int32.toInt ey3
      exact W.iret (v := y3) hx hb hr (fun t ht hW => ⟨⟨y3, mu, rfl, ⟨ok, trivial⟩, by first | (subst ht; exact hP) | (rw [ht]; exact hP) | (show va_P (dC, dI) vwCl (wR 157 ad (EX cs ad) mu) t.heap; rw [ht]; exact hP)⟩, hS.F ht⟩) hS.2.2 dX11_findings_18
    · have c_2 : 5 < vf.toInt := il_nle c_2
      refine lv_iconst (v := (-1)) hx hb dX11_findings_10 (by decide) ?_
      exact W.iret (v := (-1)) hx hb hr (fun t ht hW => ⟨⟨(-1), mu, rfl, ⟨ok, trivial⟩, by first | (subst ht; exact hP) | (rw [ht]; exact hP) | (show va_P (dC, dI) vwCl (wR 157 ad (EX cs ad) mu) t.heap; rw [ht]; exact hP)⟩, hS.F ht⟩) hS.2.2 dX11_findings_11
theorem dX11_snow_0 : decode cX11_snow 0 = .ok (.iload_n 1, 1) := by decide +kernel
theorem dX11_snow_1 : decode cX11_snow 1 = .ok (.ifCond .lt 23, 3) := by decide +kernel
theorem dX11_snow_24 : decode cX11_snow 24 = .ok (.iconst (-1), 1) := by decide +kernel
theorem dX11_snow_25 : decode cX11_snow 25 = .ok (.ireturn, 1) := by decide +kernel
theorem dX11_snow_4 : decode cX11_snow 4 = .ok (.iload_n 1, 1) := by decide +kernel
theorem dX11_snow_5 : decode cX11_snow 5 = .ok (.aload_n 0, 1) := by decide +kernel
theorem dX11_snow_6 : decode cX11_snow 6 = .ok (.getfield 30, 3) := by decide +kernel
theorem dX11_snow_9 : decode cX11_snow 9 = .ok (.getfield 173, 3) := by decide +kernel
theorem dX11_snow_12 : decode cX11_snow 12 = .ok (.if_icmp .ge 12, 3) := by decide +kernel
theorem dX11_snow_15 : decode cX11_snow 15 = .ok (.iload_n 2, 1) := by decide +kernel
theorem dX11_snow_16 : decode cX11_snow 16 = .ok (.ifCond .lt 8, 3) := by decide +kernel
theorem dX11_snow_19 : decode cX11_snow 19 = .ok (.iload_n 2, 1) := by decide +kernel
theorem dX11_snow_20 : decode cX11_snow 20 = .ok (.iconst 1, 1) := by decide +kernel
theorem dX11_snow_21 : decode cX11_snow 21 = .ok (.if_icmp .le 5, 3) := by decide +kernel
theorem dX11_snow_26 : decode cX11_snow 26 = .ok (.aload_n 0, 1) := by decide +kernel
theorem dX11_snow_27 : decode cX11_snow 27 = .ok (.getfield 30, 3) := by decide +kernel
theorem dX11_snow_30 : decode cX11_snow 30 = .ok (.getfield 166, 3) := by decide +kernel
theorem dX11_snow_33 : decode cX11_snow 33 = .ok (.getfield 176, 3) := by decide +kernel
theorem dX11_snow_36 : decode cX11_snow 36 = .ok (.iload_n 1, 1) := by decide +kernel
theorem dX11_snow_37 : decode cX11_snow 37 = .ok (.ishr, 1) := by decide +kernel
theorem dX11_snow_38 : decode cX11_snow 38 = .ok (.iconst 1, 1) := by decide +kernel
theorem dX11_snow_39 : decode cX11_snow 39 = .ok (.iand, 1) := by decide +kernel
theorem dX11_snow_40 : decode cX11_snow 40 = .ok (.istore_n 3, 1) := by decide +kernel
theorem dX11_snow_41 : decode cX11_snow 41 = .ok (.aload_n 0, 1) := by decide +kernel
theorem dX11_snow_42 : decode cX11_snow 42 = .ok (.getfield 30, 3) := by decide +kernel
theorem dX11_snow_45 : decode cX11_snow 45 = .ok (.getfield 166, 3) := by decide +kernel
theorem dX11_snow_48 : decode cX11_snow 48 = .ok (.aload_n 0, 1) := by decide +kernel
theorem dX11_snow_49 : decode cX11_snow 49 = .ok (.getfield 30, 3) := by decide +kernel
theorem dX11_snow_52 : decode cX11_snow 52 = .ok (.getfield 166, 3) := by decide +kernel
theorem dX11_snow_55 : decode cX11_snow 55 = .ok (.getfield 176, 3) := by decide +kernel
theorem dX11_snow_58 : decode cX11_snow 58 = .ok (.iconst 1, 1) := by decide +kernel
theorem dX11_snow_59 : decode cX11_snow 59 = .ok (.iload_n 1, 1) := by decide +kernel
theorem dX11_snow_60 : decode cX11_snow 60 = .ok (.ishl, 1) := by decide +kernel
theorem dX11_snow_61 : decode cX11_snow 61 = .ok (.iconst (-1), 1) := by decide +kernel
theorem dX11_snow_62 : decode cX11_snow 62 = .ok (.ixor, 1) := by decide +kernel
theorem dX11_snow_63 : decode cX11_snow 63 = .ok (.iand, 1) := by decide +kernel
theorem dX11_snow_64 : decode cX11_snow 64 = .ok (.iload_n 2, 1) := by decide +kernel
theorem dX11_snow_65 : decode cX11_snow 65 = .ok (.iload_n 1, 1) := by decide +kernel
theorem dX11_snow_66 : decode cX11_snow 66 = .ok (.ishl, 1) := by decide +kernel
theorem dX11_snow_67 : decode cX11_snow 67 = .ok (.ior, 1) := by decide +kernel
theorem dX11_snow_68 : decode cX11_snow 68 = .ok (.putfield 176, 3) := by decide +kernel
theorem dX11_snow_71 : decode cX11_snow 71 = .ok (.iload_n 3, 1) := by decide +kernel
theorem dX11_snow_72 : decode cX11_snow 72 = .ok (.ireturn, 1) := by decide +kernel
set_option maxHeartbeats 4000000 in
set_option maxRecDepth 100000 in
/-- qx_snow -/
theorem qx_snow (l : Launch) (dC : Nat → ClassId) (dI : Nat → Nat → Nat) (cs : Nat → ClassId) (ad : Nat → Nat) (mu : Nat → Nat → Int32) (ok : okR loX hiX mu) (H : Heap) (hP : va_P (dC, dI) vwCl (wR 157 ad (EX cs ad) mu) H) (hD0 : va_D (fun _ => True) (wR 157 ad (EX cs ad) mu)) (vi : Int32) (vs : Int32) : Met l yX11_snow (wU yX11_snow cX11_snow 4 (some .int)) ({ frames := 0, cells := 0, slots := 0, locals := 0 }) (va_Pc [.ref (ad 0), .int vi, .int vs] (sz_P (dC, dI) vwCl (tyW cs) H)) (va_Qi (fun (z : Int32) (xi : Nat → Nat → Int32) => okR loX hiX xi ∧ True) (fun xi t => va_P (dC, dI) vwCl (wR 157 ad (EX cs ad) xi) t.heap) (va_A (wR 157 ad (EX cs ad) mu) H.size)) 0 0 (va_A (wR 157 ad (EX cs ad) mu) H.size) := by
  refine Met.ofW (cc := cX11_snow) (maxL := 4) (ret := (some .int)) (by decide) rfl ?_
  intro p e s m args below meth c s₁ B hml hv
  obtain ⟨rfl, hh, hK, hz⟩ := hv
  have hx := B.exec
  have hb := B.bytes
  have hr := B.returns
  have hts := atoms_spec (ws := (wU yX11_snow cX11_snow 4 (some .int))) B.pre
  have hown : s.vm.findClass RX11 = some m.cls := findClass_of_methodNamed B.named
  have hlocks := B.notSynchronized
  subst hh
  have hD := hD0.self (sz := s.heap.size)
  have hA : ∀ q : Nat, s.heap.size ≤ q → (va_A (wR 157 ad (EX cs ad) mu) s.heap.size) q := fun q h => Or.inr h
  have hS : va_S (va_A (wR 157 ad (EX cs ad) mu) s.heap.size) s.heap s.heap [] := va_S.rf
  have hl := lv_entry ([.ref (ad 0), .int vi, .int vs]) (n := 4) (Nat.le_of_ble_eq_true rfl)
  rw [lg_entry_eq]
  generalize (lg_sl ([.ref (ad 0), .int vi, .int vs]) ++ List.replicate (4 - (lg_sl ([.ref (ad 0), .int vi, .int vs])).length) Slot.unset).toArray = ls at hl ⊢
  have hl : lv_has ls 4 [(0, .ref (ad 0)), (1, .int vi), (2, .int vs)] := hl
  refine lv_iload_n hx hb dX11_snow_0 rfl (lv_at hl 1 rfl) ?_
  refine lv_if_lt (tgt := 24) hx hb dX11_snow_1 (by decide) (fun c_1 => ?_) (fun c_1 => ?_)
  · have c_1 : vi.toInt < 0 := il_lt c_1
    refine lv_iconst (v := (-1)) hx hb dX11_snow_24 (by decide) ?_
    exact W.iret (v := (-1)) hx hb hr (fun t ht hW => ⟨⟨(-1), mu, rfl, ⟨ok, trivial⟩, by first | (subst ht; exact hP) | (rw [ht]; exact hP) | (show va_P (dC, dI) vwCl (wR 157 ad (EX cs ad) mu) t.heap; rw [ht]; exact hP)⟩, hS.F ht⟩) hS.2.2 dX11_snow_25
  · have c_1 : 0 ≤ vi.toInt := il_nlt c_1
    refine lv_iload_n hx hb dX11_snow_4 rfl (lv_at hl 1 rfl) ?_
    refine lv_aload_n hx hb dX11_snow_5 rfl (lv_at hl 0 rfl) ?_
    refine va_get (D := (dC, dI)) (ci := 11) (v := .ref (ad 4)) (C := RX11) (T := TX11) (N := 11) hx hb hts (fun w h => List.mem_cons_of_mem _ (inG11 w h)) hown hK hP 0 (gX_0 cs ad mu) rfl 3 (by decide) (hts (.fieldLink RX11 30 "DearLetters" "town" "LDearLetters$Town;") (List.mem_cons_of_mem _ (lg_at 2 161 (by decide +kernel) rfl))) (fun _ h9 => h9) rfl dX11_snow_6 ?_
    refine va_get (D := (dC, dI)) (ci := 10) (v := .int (mu 4 7)) (C := RX10) (T := TX10) (N := 8) hx hb hts (fun w h => List.mem_cons_of_mem _ (inG10 w h)) hown hK hP 4 (gX_4 cs ad mu) rfl 7 (by decide) (hts (.fieldLink RX11 173 "DearLetters$Town" "paths" "I") (List.mem_cons_of_mem _ (lg_at 1 167 (by decide +kernel) rfl))) (fun _ h9 => h9) rfl dX11_snow_9 ?_
    refine lv_topi (fun y2 ey2 => ?_)
    have by2 : y2.toInt = (mu 4 7).toInt := congrArg Int32.toInt ey2
    have gy2 : 0 ≤ y2.toInt ∧ y2.toInt ≤ 12 := by rw [ey2]; exact ok 4 7
    refine lv_icmp_ge (tgt := 24) hx hb dX11_snow_12 (by decide) (fun c_3 => ?_) (fun c_3 => ?_)
    · have c_3 : y2.toInt ≤ vi.toInt := il_le c_3
      refine lv_iconst (v := (-1)) hx hb dX11_snow_24 (by decide) ?_
      exact W.iret (v := (-1)) hx hb hr (fun t ht hW => ⟨⟨(-1), mu, rfl, ⟨ok, trivial⟩, by first | (subst ht; exact hP) | (rw [ht]; exact hP) | (show va_P (dC, dI) vwCl (wR 157 ad (EX cs ad) mu) t.heap; rw [ht]; exact hP)⟩, hS.F ht⟩) hS.2.2 dX11_snow_25
    · have c_3 : vi.toInt < y2.toInt := il_nle c_3
      refine lv_iload_n hx hb dX11_snow_15 rfl (lv_at hl 2 rfl) ?_
      refine lv_if_lt (tgt := 24) hx hb dX11_snow_16 (by decide) (fun c_4 => ?_) (fun c_4 => ?_)
      · have c_4 : vs.toInt < 0 := il_lt c_4
        refine lv_iconst (v := (-1)) hx hb dX11_snow_24 (by decide) ?_
        exact W.iret (v := (-1)) hx hb hr (fun t ht hW => ⟨⟨(-1), mu, rfl, ⟨ok, trivial⟩, by first | (subst ht; exact hP) | (rw [ht]; exact hP) | (show va_P (dC, dI) vwCl (wR 157 ad (EX cs ad) mu) t.heap; rw [ht]; exact hP)⟩, hS.F ht⟩) hS.2.2 dX11_snow_25
      · have c_4 : 0 ≤ vs.toInt := il_nlt c_4
        refine lv_iload_n hx hb dX11_snow_19 rfl (lv_at hl 2 rfl) ?_
        refine lv_iconst (v := 1) hx hb dX11_snow_20 (by decide) ?_
        refine lv_icmp_le (tgt := 26) hx hb dX11_snow_21 (by decide) (fun c_5 => ?_) (fun c_5 => ?_)
        · have c_5 : vs.toInt ≤ 1 := il_le c_5
          refine lv_aload_n hx hb dX11_snow_26 rfl (lv_at hl 0 rfl) ?_
          refine va_get (D := (dC, dI)) (ci := 11) (v := .ref (ad 4)) (C := RX11) (T := TX11) (N := 11) hx hb hts (fun w h => List.mem_cons_of_mem _ (inG11 w h)) hown hK hP 0 (gX_0 cs ad mu) rfl 3 (by decide) (hts (.fieldLink RX11 30 "DearLetters" "town" "LDearLetters$Town;") (List.mem_cons_of_mem _ (lg_at 2 161 (by decide +kernel) rfl))) (fun _ h9 => h9) rfl dX11_snow_27 ?_
          refine va_get (D := (dC, dI)) (ci := 10) (v := .ref (ad 5)) (C := RX10) (T := TX10) (N := 8) hx hb hts (fun w h => List.mem_cons_of_mem _ (inG10 w h)) hown hK hP 4 (gX_4 cs ad mu) rfl 3 (by decide) (hts (.fieldLink RX11 166 "DearLetters$Town" "now" "LDearLetters$Standing;") (List.mem_cons_of_mem _ (lg_at 1 157 (by decide +kernel) rfl))) (fun _ h9 => h9) rfl dX11_snow_30 ?_
          refine va_get (D := (dC, dI)) (ci := 8) (v := .int (mu 5 2)) (C := RX8) (T := TX8) (N := 6) hx hb hts (fun w h => List.mem_cons_of_mem _ (inG8 w h)) hown hK hP 5 (gX_5 cs ad mu) rfl 2 (by decide) (hts (.fieldLink RX11 176 "DearLetters$Standing" "snow" "I") (List.mem_cons_of_mem _ (lg_at 1 118 (by decide +kernel) rfl))) (fun _ h9 => h9) rfl dX11_snow_33 ?_
          refine lv_topi (fun y6 ey6 => ?_)
          have by6 : y6.toInt = (mu 5 2).toInt := congrArg Int32.toInt ey6
          refine lv_iload_n hx hb dX11_snow_36 rfl (lv_at hl 1 rfl) ?_
          refine lv_ishr hx hb dX11_snow_37 ?_
          refine lv_topi (fun t7 et7 => ?_)
          refine lv_iconst (v := 1) hx hb dX11_snow_38 (by decide) ?_
          refine lv_iand hx hb dX11_snow_39 ?_
          refine lv_topi (fun t8 et8 => ?_)
          refine lv_istore_n (lv' := [(3, .int t8), (0, .ref (ad 0)), (1, .int vi), (2, .int vs)]) hx hb dX11_snow_40 rfl hl (by decide) rfl (fun ls hl => ?_)
          refine lv_aload_n hx hb dX11_snow_41 rfl (lv_at hl 1 rfl) ?_
          refine va_get (D := (dC, dI)) (ci := 11) (v := .ref (ad 4)) (C := RX11) (T := TX11) (N := 11) hx hb hts (fun w h => List.mem_cons_of_mem _ (inG11 w h)) hown hK hP 0 (gX_0 cs ad mu) rfl 3 (by decide) (hts (.fieldLink RX11 30 "DearLetters" "town" "LDearLetters$Town;") (List.mem_cons_of_mem _ (lg_at 2 161 (by decide +kernel) rfl))) (fun _ h9 => h9) rfl dX11_snow_42 ?_
          refine va_get (D := (dC, dI)) (ci := 10) (v := .ref (ad 5)) (C := RX10) (T := TX10) (N := 8) hx hb hts (fun w h => List.mem_cons_of_mem _ (inG10 w h)) hown hK hP 4 (gX_4 cs ad mu) rfl 3 (by decide) (hts (.fieldLink RX11 166 "DearLetters$Town" "now" "LDearLetters$Standing;") (List.mem_cons_of_mem _ (lg_at 1 157 (by decide +kernel) rfl))) (fun _ h9 => h9) rfl dX11_snow_45 ?_
          refine lv_aload_n hx hb dX11_snow_48 rfl (lv_at hl 1 rfl) ?_
          refine va_get (D := (dC, dI)) (ci := 11) (v := .ref (ad 4)) (C := RX11) (T := TX11) (N := 11) hx hb hts (fun w h => List.mem_cons_of_mem _ (inG11 w h)) hown hK hP 0 (gX_0 cs ad mu) rfl 3 (by decide) (hts (.fieldLink RX11 30 "DearLetters" "town" "LDearLetters$Town;") (List.mem_cons_of_mem _ (lg_at 2 161 (by decide +kernel) rfl))) (fun _ h9 => h9) rfl dX11_snow_49 ?_
          refine va_get (D := (dC, dI)) (ci := 10) (v := .ref (ad 5)) (C := RX10) (T := TX10) (N := 8) hx hb hts (fun w h => List.mem_cons_of_mem _ (inG10 w h)) hown hK hP 4 (gX_4 cs ad mu) rfl 3 (by decide) (hts (.fieldLink RX11 166 "DearLetters$Town" "now" "LDearLetters$Standing;") (List.mem_cons_of_mem _ (lg_at 1 157 (by decide +kernel) rfl))) (fun _ h9 => h9) rfl dX11_snow_52 ?_
          refine va_get (D := (dC, dI)) (ci := 8) (v := .int (mu 5 2)) (C := RX8) (T := TX8) (N := 6) hx hb hts (fun w h => List.mem_cons_of_mem _ (inG8 w h)) hown hK hP 5 (gX_5 cs ad mu) rfl 2 (by decide) (hts (.fieldLink RX11 176 "DearLetters$Standing" "snow" "I") (List.mem_cons_of_mem _ (lg_at 1 118 (by decide +kernel) rfl))) (fun _ h9 => h9) rfl dX11_snow_55 ?_
          refine lq_i y6 (by first | (rw [ey6]; done) | (rw [ey6]; rfl) | (rw [ey6]; simp (discharger := omega) only [va_up, if_neg])) ?_
          refine lv_iconst (v := 1) hx hb dX11_snow_58 (by decide) ?_
          refine lv_iload_n hx hb dX11_snow_59 rfl (lv_at hl 2 rfl) ?_
          refine lv_ishl hx hb dX11_snow_60 ?_
          refine lv_topi (fun t9 et9 => ?_)
          refine lv_iconst (v := (-1)) hx hb dX11_snow_61 (by decide) ?_
          refine lv_ixor hx hb dX11_snow_62 ?_
          refine lv_topi (fun t10 et10 => ?_)
          refine lv_iand hx hb dX11_snow_63 ?_
          refine lv_topi (fun t11 et11 => ?_)
          refine lv_iload_n hx hb dX11_snow_64 rfl (lv_at hl 3 rfl) ?_
          refine lv_iload_n hx hb dX11_snow_65 rfl (lv_at hl 2 rfl) ?_
          refine lv_ishl hx hb dX11_snow_66 ?_
          refine lv_topi (fun t12 et12 => ?_)
          refine lv_ior hx hb dX11_snow_67 ?_
          refine lv_topi (fun t13 et13 => ?_)
          refine va_put (D := (dC, dI)) (ci := 8) (v := .int t13) (ty := .int) (C := RX8) (T := TX8) (N := 6) hx hb hts (fun w h => List.mem_cons_of_mem _ (inG8 w h)) tyX8 tyX8_ok nmX8 hown hK hP (wR_D mu hD) hS 5 (gX_5 cs ad mu) rfl 2 (by decide) (hts (.fieldLink RX11 176 "DearLetters$Standing" "snow" "I") (List.mem_cons_of_mem _ (lg_at 1 118 (by decide +kernel) rfl))) (fun _ h9 => h9) rfl (by decide +kernel) (by first | rfl | decide) (by first | rfl | decide) (Nat.le_of_ble_eq_true rfl) dX11_snow_68 (fun H locs hP _ hS => ?_)
          have hP := wR_P (upd (mu 5) 2 t13) hP (rfl)
          have ok := okR_up ok 5 2 t13 (by first | exact tI_lo _ | (unfold loX; simp (discharger := omega) only [if_pos, if_neg, and_true, true_and]; exact tI_lo _)) (by first | exact tI_hi _ | (unfold hiX; simp (discharger := omega) only [if_pos, if_neg, and_true, true_and]; exact tI_hi _))
          refine lv_iload_n hx hb dX11_snow_71 rfl (lv_at hl 0 rfl) ?_
          exact W.iret (v := t8) hx hb hr (fun t ht hW => ⟨⟨t8, (va_up mu 5 (upd (mu 5) 2 t13)), rfl, ⟨ok, trivial⟩, by first | (subst ht; exact hP) | (rw [ht]; exact hP) | (show va_P (dC, dI) vwCl (wR 157 ad (EX cs ad) (va_up mu 5 (upd (mu 5) 2 t13))) t.heap; rw [ht]; exact hP)⟩, hS.F ht⟩) hS.2.2 dX11_snow_72
        · have c_5 : 1 < vs.toInt := il_nle c_5
          refine lv_iconst (v := (-1)) hx hb dX11_snow_24 (by decide) ?_
          exact W.iret (v := (-1)) hx hb hr (fun t ht hW => ⟨⟨(-1), mu, rfl, ⟨ok, trivial⟩, by first | (subst ht; exact hP) | (rw [ht]; exact hP) | (show va_P (dC, dI) vwCl (wR 157 ad (EX cs ad) mu) t.heap; rw [ht]; exact hP)⟩, hS.F ht⟩) hS.2.2 dX11_snow_25
theorem dX11_send_0 : decode cX11_send 0 = .ok (.aload_n 0, 1) := by decide +kernel
theorem dX11_send_1 : decode cX11_send 1 = .ok (.iload_n 1, 1) := by decide +kernel
theorem dX11_send_2 : decode cX11_send 2 = .ok (.iload_n 2, 1) := by decide +kernel
theorem dX11_send_3 : decode cX11_send 3 = .ok (.invokevirtual 182, 3) := by decide +kernel
theorem dX11_send_6 : decode cX11_send 6 = .ok (.ifCond .eq 25, 3) := by decide +kernel
theorem dX11_send_9 : decode cX11_send 9 = .ok (.iload_n 3, 1) := by decide +kernel
theorem dX11_send_10 : decode cX11_send 10 = .ok (.ifCond .lt 21, 3) := by decide +kernel
theorem dX11_send_31 : decode cX11_send 31 = .ok (.iconst (-1), 1) := by decide +kernel
theorem dX11_send_32 : decode cX11_send 32 = .ok (.ireturn, 1) := by decide +kernel
theorem dX11_send_13 : decode cX11_send 13 = .ok (.iload_n 3, 1) := by decide +kernel
theorem dX11_send_14 : decode cX11_send 14 = .ok (.bipush 99, 2) := by decide +kernel
theorem dX11_send_16 : decode cX11_send 16 = .ok (.if_icmp .gt 15, 3) := by decide +kernel
theorem dX11_send_19 : decode cX11_send 19 = .ok (.iload 4, 2) := by decide +kernel
theorem dX11_send_21 : decode cX11_send 21 = .ok (.ifCond .lt 10, 3) := by decide +kernel
theorem dX11_send_24 : decode cX11_send 24 = .ok (.iload 4, 2) := by decide +kernel
theorem dX11_send_26 : decode cX11_send 26 = .ok (.bipush 9, 2) := by decide +kernel
theorem dX11_send_28 : decode cX11_send 28 = .ok (.if_icmp .le 5, 3) := by decide +kernel
theorem dX11_send_33 : decode cX11_send 33 = .ok (.aload_n 0, 1) := by decide +kernel
theorem dX11_send_34 : decode cX11_send 34 = .ok (.getfield 30, 3) := by decide +kernel
theorem dX11_send_37 : decode cX11_send 37 = .ok (.getfield 166, 3) := by decide +kernel
theorem dX11_send_40 : decode cX11_send 40 = .ok (.getfield 185, 3) := by decide +kernel
theorem dX11_send_43 : decode cX11_send 43 = .ok (.istore 5, 2) := by decide +kernel
theorem dX11_send_45 : decode cX11_send 45 = .ok (.iload 5, 2) := by decide +kernel
theorem dX11_send_47 : decode cX11_send 47 = .ok (.iconst 4, 1) := by decide +kernel
theorem dX11_send_48 : decode cX11_send 48 = .ok (.if_icmp .lt 6, 3) := by decide +kernel
theorem dX11_send_54 : decode cX11_send 54 = .ok (.aload_n 0, 1) := by decide +kernel
theorem dX11_send_55 : decode cX11_send 55 = .ok (.getfield 30, 3) := by decide +kernel
theorem dX11_send_58 : decode cX11_send 58 = .ok (.getfield 166, 3) := by decide +kernel
theorem dX11_send_61 : decode cX11_send 61 = .ok (.getfield 188, 3) := by decide +kernel
theorem dX11_send_64 : decode cX11_send 64 = .ok (.iload 5, 2) := by decide +kernel
theorem dX11_send_66 : decode cX11_send 66 = .ok (.aaload, 1) := by decide +kernel
theorem dX11_send_67 : decode cX11_send 67 = .ok (.iload_n 1, 1) := by decide +kernel
theorem dX11_send_68 : decode cX11_send 68 = .ok (.iload_n 2, 1) := by decide +kernel
theorem dX11_send_69 : decode cX11_send 69 = .ok (.iload_n 3, 1) := by decide +kernel
theorem dX11_send_70 : decode cX11_send 70 = .ok (.iload 4, 2) := by decide +kernel
theorem dX11_send_72 : decode cX11_send 72 = .ok (.aload_n 0, 1) := by decide +kernel
theorem dX11_send_73 : decode cX11_send 73 = .ok (.getfield 30, 3) := by decide +kernel
theorem dX11_send_76 : decode cX11_send 76 = .ok (.getfield 166, 3) := by decide +kernel
theorem dX11_send_79 : decode cX11_send 79 = .ok (.getfield 192, 3) := by decide +kernel
theorem dX11_send_82 : decode cX11_send 82 = .ok (.invokevirtual 195, 3) := by decide +kernel
theorem dX11_send_85 : decode cX11_send 85 = .ok (.aload_n 0, 1) := by decide +kernel
theorem dX11_send_86 : decode cX11_send 86 = .ok (.getfield 30, 3) := by decide +kernel
theorem dX11_send_89 : decode cX11_send 89 = .ok (.getfield 166, 3) := by decide +kernel
theorem dX11_send_92 : decode cX11_send 92 = .ok (.iload 5, 2) := by decide +kernel
theorem dX11_send_94 : decode cX11_send 94 = .ok (.iconst 1, 1) := by decide +kernel
theorem dX11_send_95 : decode cX11_send 95 = .ok (.iadd, 1) := by decide +kernel
theorem dX11_send_96 : decode cX11_send 96 = .ok (.putfield 185, 3) := by decide +kernel
theorem dX11_send_99 : decode cX11_send 99 = .ok (.iload 5, 2) := by decide +kernel
theorem dX11_send_101 : decode cX11_send 101 = .ok (.ireturn, 1) := by decide +kernel
theorem dX11_send_51 : decode cX11_send 51 = .ok (.bipush (-2), 2) := by decide +kernel
theorem dX11_send_53 : decode cX11_send 53 = .ok (.ireturn, 1) := by decide +kernel
set_option maxHeartbeats 4000000 in
set_option maxRecDepth 100000 in
/-- qx_send -/
theorem qx_send (l : Launch) (dC : Nat → ClassId) (dI : Nat → Nat → Nat) (cs : Nat → ClassId) (ad : Nat → Nat) (mu : Nat → Nat → Int32) (ok : okR loX hiX mu) (H : Heap) (hP : va_P (dC, dI) vwCl (wR 157 ad (EX cs ad) mu) H) (hD0 : va_D (fun _ => True) (wR 157 ad (EX cs ad) mu)) (vx : Int32) (vy : Int32) (vw : Int32) (vf : Int32) : Met l yX11_send (wU yX11_send cX11_send 6 (some .int)) ({ frames := 2, cells := 0, slots := 0, locals := 43 }) (va_Pc [.ref (ad 0), .int vx, .int vy, .int vw, .int vf] (sz_P (dC, dI) vwCl (tyW cs) H)) (va_Qi (fun (z : Int32) (xi : Nat → Nat → Int32) => okR loX hiX xi ∧ True) (fun xi t => va_P (dC, dI) vwCl (wR 157 ad (EX cs ad) xi) t.heap) (va_A (wR 157 ad (EX cs ad) mu) H.size)) 0 0 (va_A (wR 157 ad (EX cs ad) mu) H.size) := by
  refine Met.ofW (cc := cX11_send) (maxL := 6) (ret := (some .int)) (by decide) rfl ?_
  intro p e s m args below meth c s₁ B hml hv
  obtain ⟨rfl, hh, hK, hz⟩ := hv
  have hx := B.exec
  have hb := B.bytes
  have hr := B.returns
  have hts := atoms_spec (ws := (wU yX11_send cX11_send 6 (some .int))) B.pre
  have hown : s.vm.findClass RX11 = some m.cls := findClass_of_methodNamed B.named
  have hlocks := B.notSynchronized
  subst hh
  have hD := hD0.self (sz := s.heap.size)
  have hA : ∀ q : Nat, s.heap.size ≤ q → (va_A (wR 157 ad (EX cs ad) mu) s.heap.size) q := fun q h => Or.inr h
  have hS : va_S (va_A (wR 157 ad (EX cs ad) mu) s.heap.size) s.heap s.heap [] := va_S.rf
  have hl := lv_entry ([.ref (ad 0), .int vx, .int vy, .int vw, .int vf]) (n := 6) (Nat.le_of_ble_eq_true rfl)
  rw [lg_entry_eq]
  generalize (lg_sl ([.ref (ad 0), .int vx, .int vy, .int vw, .int vf]) ++ List.replicate (6 - (lg_sl ([.ref (ad 0), .int vx, .int vy, .int vw, .int vf])).length) Slot.unset).toArray = ls at hl ⊢
  have hl : lv_has ls 6 [(0, .ref (ad 0)), (1, .int vx), (2, .int vy), (3, .int vw), (4, .int vf)] := hl
  refine lv_aload_n hx hb dX11_send_0 rfl (lv_at hl 0 rfl) ?_
  refine lv_iload_n hx hb dX11_send_1 rfl (lv_at hl 1 rfl) ?_
  refine lv_iload_n hx hb dX11_send_2 rfl (lv_at hl 2 rfl) ?_
  refine cr_i (va_runV (As := [.int vx, .int vy]) (rest := []) ⟨hx, hb, hml, hown, hts⟩ (sx_isPair l dC dI cs ad mu ok s.heap hP vx vy) (cwV 2 hts (wU_V (lg_at 3 145 (by decide +kernel) rfl) (lg_at 3 142 (by decide +kernel) rfl) (lg_at 3 144 (by decide +kernel) rfl) (lg_at 0 7 (by decide +kernel) rfl) (lg_at 1 1 (by decide +kernel) rfl)) rfl rfl rfl (by decide +kernel) ⟨Nat.le_of_ble_eq_true rfl, Nat.le_of_ble_eq_true rfl⟩) ⟨sz_c, va_recv hK hP (ci := 11) (q0 := 0) rfl (gX_0 cs ad mu), sz_m hK hz⟩ rfl rfl hl.1 rfl (lv_room (Nat.le_of_ble_eq_true rfl)) dX11_send_3 ⟨Nat.zero_le _, Nat.zero_le _⟩) hS (fun r1 hw1 locs hS => ?_)
  rcases hw1 with ⟨rfl, f1⟩ | ⟨rfl, f1⟩
  · have f1 : 0 ≤ vx.toInt ∧ vx.toInt < (mu 4 6).toInt ∧ 0 ≤ vy.toInt ∧ vy.toInt < (mu 4 6).toInt ∧ (mu 4 6).toInt ≤ 7 := f1
    refine lv_if_eq (tgt := 31) hx hb dX11_send_6 (by decide) (fun c => absurd c (by decide)) (fun _ => ?_)
    refine lv_iload_n hx hb dX11_send_9 rfl (lv_at hl 3 rfl) ?_
    refine lv_if_lt (tgt := 31) hx hb dX11_send_10 (by decide) (fun c_2 => ?_) (fun c_2 => ?_)
    · have c_2 : vw.toInt < 0 := il_lt c_2
      refine lv_iconst (v := (-1)) hx hb dX11_send_31 (by decide) ?_
      exact W.iret (v := (-1)) hx hb hr (fun t ht hW => ⟨⟨(-1), mu, rfl, ⟨ok, trivial⟩, by first | (subst ht; exact hP) | (rw [ht]; exact hP) | (show va_P (dC, dI) vwCl (wR 157 ad (EX cs ad) mu) t.heap; rw [ht]; exact hP)⟩, hS.F ht⟩) hS.2.2 dX11_send_32
    · have c_2 : 0 ≤ vw.toInt := il_nlt c_2
      refine lv_iload_n hx hb dX11_send_13 rfl (lv_at hl 3 rfl) ?_
      refine lv_bipush (v := 99) hx hb dX11_send_14 (by decide) ?_
      refine lv_icmp_gt (tgt := 31) hx hb dX11_send_16 (by decide) (fun c_3 => ?_) (fun c_3 => ?_)
      · have c_3 : 99 < vw.toInt := il_lt c_3
        refine lv_iconst (v := (-1)) hx hb dX11_send_31 (by decide) ?_
        exact W.iret (v := (-1)) hx hb hr (fun t ht hW => ⟨⟨(-1), mu, rfl, ⟨ok, trivial⟩, by first | (subst ht; exact hP) | (rw [ht]; exact hP) | (show va_P (dC, dI) vwCl (wR 157 ad (EX cs ad) mu) t.heap; rw [ht]; exact hP)⟩, hS.F ht⟩) hS.2.2 dX11_send_32
      · have c_3 : vw.toInt ≤ 99 := il_nlt c_3
        refine lv_iload hx hb dX11_send_19 (lv_at hl 4 rfl) ?_
        refine lv_if_lt (tgt := 31) hx hb dX11_send_21 (by decide) (fun c_4 => ?_) (fun c_4 => ?_)
        · have c_4 : vf.toInt < 0 := il_lt c_4
          refine lv_iconst (v := (-1)) hx hb dX11_send_31 (by decide) ?_
          exact W.iret (v := (-1)) hx hb hr (fun t ht hW => ⟨⟨(-1), mu, rfl, ⟨ok, trivial⟩, by first | (subst ht; exact hP) | (rw [ht]; exact hP) | (show va_P (dC, dI) vwCl (wR 157 ad (EX cs ad) mu) t.heap; rw [ht]; exact hP)⟩, hS.F ht⟩) hS.2.2 dX11_send_32
        · have c_4 : 0 ≤ vf.toInt := il_nlt c_4
          refine lv_iload hx hb dX11_send_24 (lv_at hl 4 rfl) ?_
          refine lv_bipush (v := 9) hx hb dX11_send_26 (by decide) ?_
          refine lv_icmp_le (tgt := 33) hx hb dX11_send_28 (by decide) (fun c_5 => ?_) (fun c_5 => ?_)
          · have c_5 : vf.toInt ≤ 9 := il_le c_5
            refine lv_aload_n hx hb dX11_send_33 rfl (lv_at hl 0 rfl) ?_
            refine va_get (D := (dC, dI)) (ci := 11) (v := .ref (ad 4)) (C := RX11) (T := TX11) (N := 11) hx hb hts (fun w h => List.mem_cons_of_mem _ (inG11 w h)) hown hK hP 0 (gX_0 cs ad mu) rfl 3 (by decide) (hts (.fieldLink RX11 30 "DearLetters" "town" "LDearLetters$Town;") (List.mem_cons_of_mem _ (lg_at 2 161 (by decide +kernel) rfl))) (fun _ h9 => h9) rfl dX11_send_34 ?_
            refine va_get (D := (dC, dI)) (ci := 10) (v := .ref (ad 5)) (C := RX10) (T := TX10) (N := 8) hx hb hts (fun w h => List.mem_cons_of_mem _ (inG10 w h)) hown hK hP 4 (gX_4 cs ad mu) rfl 3 (by decide) (hts (.fieldLink RX11 166 "DearLetters$Town" "now" "LDearLetters$Standing;") (List.mem_cons_of_mem _ (lg_at 1 157 (by decide +kernel) rfl))) (fun _ h9 => h9) rfl dX11_send_37 ?_
            refine va_get (D := (dC, dI)) (ci := 8) (v := .int (mu 5 4)) (C := RX8) (T := TX8) (N := 6) hx hb hts (fun w h => List.mem_cons_of_mem _ (inG8 w h)) hown hK hP 5 (gX_5 cs ad mu) rfl 4 (by decide) (hts (.fieldLink RX11 185 "DearLetters$Standing" "sent" "I") (List.mem_cons_of_mem _ (lg_at 1 128 (by decide +kernel) rfl))) (fun _ h9 => h9) rfl dX11_send_40 ?_
            refine lv_topi (fun y6 ey6 => ?_)
            have by6 : y6.toInt = (mu 5 4).toInt := congrArg Int32.toInt ey6
            have gy6 : 0 ≤ y6.toInt ∧ y6.toInt ≤ 4 := by rw [ey6]; exact ok 5 4
            refine lv_istore (lv' := [(5, .int y6), (0, .ref (ad 0)), (1, .int vx), (2, .int vy), (3, .int vw), (4, .int vf)]) hx hb dX11_send_43 hl (by decide) rfl (fun ls hl => ?_)
            refine lv_iload hx hb dX11_send_45 (lv_at hl 0 rfl) ?_
            refine lv_iconst (v := 4) hx hb dX11_send_47 (by decide) ?_
            refine lv_icmp_lt (tgt := 54) hx hb dX11_send_48 (by decide) (fun c_7 => ?_) (fun c_7 => ?_)
            · have c_7 : y6.toInt < 4 := il_lt c_7
              refine lv_aload_n hx hb dX11_send_54 rfl (lv_at hl 1 rfl) ?_
              refine va_get (D := (dC, dI)) (ci := 11) (v := .ref (ad 4)) (C := RX11) (T := TX11) (N := 11) hx hb hts (fun w h => List.mem_cons_of_mem _ (inG11 w h)) hown hK hP 0 (gX_0 cs ad mu) rfl 3 (by decide) (hts (.fieldLink RX11 30 "DearLetters" "town" "LDearLetters$Town;") (List.mem_cons_of_mem _ (lg_at 2 161 (by decide +kernel) rfl))) (fun _ h9 => h9) rfl dX11_send_55 ?_
              refine va_get (D := (dC, dI)) (ci := 10) (v := .ref (ad 5)) (C := RX10) (T := TX10) (N := 8) hx hb hts (fun w h => List.mem_cons_of_mem _ (inG10 w h)) hown hK hP 4 (gX_4 cs ad mu) rfl 3 (by decide) (hts (.fieldLink RX11 166 "DearLetters$Town" "now" "LDearLetters$Standing;") (List.mem_cons_of_mem _ (lg_at 1 157 (by decide +kernel) rfl))) (fun _ h9 => h9) rfl dX11_send_58 ?_
              refine va_get (D := (dC, dI)) (ci := 8) (v := .ref (ad 47)) (C := RX8) (T := TX8) (N := 6) hx hb hts (fun w h => List.mem_cons_of_mem _ (inG8 w h)) hown hK hP 5 (gX_5 cs ad mu) rfl 1 (by decide) (hts (.fieldLink RX11 188 "DearLetters$Standing" "letters" "[LDearLetters$Letter;") (List.mem_cons_of_mem _ (lg_at 1 112 (by decide +kernel) rfl))) (fun _ h9 => h9) rfl dX11_send_61 ?_
              refine lv_iload hx hb dX11_send_64 (lv_at hl 0 rfl) ?_
              refine va_aldq hx hb hK hP 47 5 (gX_47 cs ad mu) rfl (show vp_in y6 4 from vi_of (by omega) (by omega)) dX11_send_66 ?_
              have hy6_c := tC_of (v := y6) (by omega)
              refine lq_v (.ref (ad (61 + y6.toNatClampNeg))) rfl ?_
              refine lv_iload_n hx hb dX11_send_67 rfl (lv_at hl 2 rfl) ?_
              refine lv_iload_n hx hb dX11_send_68 rfl (lv_at hl 3 rfl) ?_
              refine lv_iload_n hx hb dX11_send_69 rfl (lv_at hl 4 rfl) ?_
              refine lv_iload hx hb dX11_send_70 (lv_at hl 5 rfl) ?_
              refine lv_aload_n hx hb dX11_send_72 rfl (lv_at hl 1 rfl) ?_
              refine va_get (D := (dC, dI)) (ci := 11) (v := .ref (ad 4)) (C := RX11) (T := TX11) (N := 11) hx hb hts (fun w h => List.mem_cons_of_mem _ (inG11 w h)) hown hK hP 0 (gX_0 cs ad mu) rfl 3 (by decide) (hts (.fieldLink RX11 30 "DearLetters" "town" "LDearLetters$Town;") (List.mem_cons_of_mem _ (lg_at 2 161 (by decide +kernel) rfl))) (fun _ h9 => h9) rfl dX11_send_73 ?_
              refine va_get (D := (dC, dI)) (ci := 10) (v := .ref (ad 5)) (C := RX10) (T := TX10) (N := 8) hx hb hts (fun w h => List.mem_cons_of_mem _ (inG10 w h)) hown hK hP 4 (gX_4 cs ad mu) rfl 3 (by decide) (hts (.fieldLink RX11 166 "DearLetters$Town" "now" "LDearLetters$Standing;") (List.mem_cons_of_mem _ (lg_at 1 157 (by decide +kernel) rfl))) (fun _ h9 => h9) rfl dX11_send_76 ?_
              refine va_get (D := (dC, dI)) (ci := 8) (v := .int (mu 5 3)) (C := RX8) (T := TX8) (N := 6) hx hb hts (fun w h => List.mem_cons_of_mem _ (inG8 w h)) hown hK hP 5 (gX_5 cs ad mu) rfl 3 (by decide) (hts (.fieldLink RX11 192 "DearLetters$Standing" "day" "I") (List.mem_cons_of_mem _ (lg_at 1 124 (by decide +kernel) rfl))) (fun _ h9 => h9) rfl dX11_send_79 ?_
              refine lv_topi (fun y8 ey8 => ?_)
              have by8 : y8.toInt = (mu 5 3).toInt := congrArg Int32.toInt ey8
              have hFc := fr_all (wR_D mu hD) hS hA
              refine va_callv (va_runV (As := [.int vx, .int vy, .int vw, .int vf, .int y8]) (rest := []) ⟨hx, hb, hml, hown, hts⟩ (sx_begin l dC dI cs ad mu ok s.heap hP ((wR_D mu hD).weaken (fun _ _ _ _ => trivial)) (61 + y6.toNatClampNeg) (by omega) (by omega) vx vy vw vf y8 (by omega)) (cwV 5 hts (wU_V (lg_at 3 149 (by decide +kernel) rfl) (lg_at 3 146 (by decide +kernel) rfl) (lg_at 3 147 (by decide +kernel) rfl) (lg_at 3 148 (by decide +kernel) rfl) (lg_at 1 4 (by decide +kernel) rfl)) rfl rfl rfl (by decide +kernel) ⟨Nat.le_of_ble_eq_true rfl, Nat.le_of_ble_eq_true rfl⟩) ⟨sz_c, va_recv hK hP (ci := 3) (q0 := (61 + y6.toNatClampNeg)) rfl (gX_letter cs ad mu (61 + y6.toNatClampNeg) (by omega) (by omega)), sz_m hK hz⟩ rfl rfl hl.1 rfl (lv_room (Nat.le_of_ble_eq_true rfl)) dX11_send_82 ⟨Nat.zero_le _, Nat.zero_le _⟩) hS (fun q _ h => hFc q h) hFc (fun xi9 t H9 locs ht hvm hw9 hB hz1 hk1 hS => ?_)
              obtain ⟨ok, hw9⟩ := hw9
              have hP : va_P (dC, dI) vwCl (wR 157 ad (EX cs ad) xi9) H9 := by rw [← ht]; exact hB
              refine lv_aload_n hx hb dX11_send_85 rfl (lv_at hl 1 rfl) ?_
              refine va_get (D := (dC, dI)) (ci := 11) (v := .ref (ad 4)) (C := RX11) (T := TX11) (N := 11) hx hb hts (fun w h => List.mem_cons_of_mem _ (inG11 w h)) hown hK hP 0 (gX_0 cs ad xi9) rfl 3 (by decide) (hts (.fieldLink RX11 30 "DearLetters" "town" "LDearLetters$Town;") (List.mem_cons_of_mem _ (lg_at 2 161 (by decide +kernel) rfl))) (fun _ h9 => h9) rfl dX11_send_86 ?_
              refine va_get (D := (dC, dI)) (ci := 10) (v := .ref (ad 5)) (C := RX10) (T := TX10) (N := 8) hx hb hts (fun w h => List.mem_cons_of_mem _ (inG10 w h)) hown hK hP 4 (gX_4 cs ad xi9) rfl 3 (by decide) (hts (.fieldLink RX11 166 "DearLetters$Town" "now" "LDearLetters$Standing;") (List.mem_cons_of_mem _ (lg_at 1 157 (by decide +kernel) rfl))) (fun _ h9 => h9) rfl dX11_send_89 ?_
              refine lv_iload hx hb dX11_send_92 (lv_at hl 0 rfl) ?_
              refine lv_iconst (v := 1) hx hb dX11_send_94 (by decide) ?_
              refine lv_iadd hx hb dX11_send_95 ?_
              refine lv_topi (fun t10 et10 => ?_)
              have at10 : t10.toInt = y6.toInt + 1 := by rw [et10]; exact tI_add (rfl : y6.toInt = _) (rfl : (1 : Int32).toInt = 1) (by omega) (by omega)
              refine va_put (D := (dC, dI)) (ci := 8) (v := .int t10) (ty := .int) (C := RX8) (T := TX8) (N := 6) hx hb hts (fun w h => List.mem_cons_of_mem _ (inG8 w h)) tyX8 tyX8_ok nmX8 hown hK hP (wR_D xi9 hD) hS 5 (gX_5 cs ad xi9) rfl 4 (by decide) (hts (.fieldLink RX11 185 "DearLetters$Standing" "sent" "I") (List.mem_cons_of_mem _ (lg_at 1 128 (by decide +kernel) rfl))) (fun _ h9 => h9) rfl (by decide +kernel) (by first | rfl | decide) (by first | rfl | decide) (Nat.le_of_ble_eq_true rfl) dX11_send_96 (fun H locs hP _ hS => ?_)
              have hP := wR_P (upd (xi9 5) 4 t10) hP (rfl)
              have ok := okR_up ok 5 4 t10 (by show (0 : Int) ≤ (t10 : Int32).toInt; omega) (by show (t10 : Int32).toInt ≤ (4 : Int); omega)
              refine lv_iload hx hb dX11_send_99 (lv_at hl 0 rfl) ?_
              exact W.iret (v := y6) hx hb hr (fun t ht hW => ⟨⟨y6, (va_up xi9 5 (upd (xi9 5) 4 t10)), rfl, ⟨ok, trivial⟩, by first | (subst ht; exact hP) | (rw [ht]; exact hP) | (show va_P (dC, dI) vwCl (wR 157 ad (EX cs ad) (va_up xi9 5 (upd (xi9 5) 4 t10))) t.heap; rw [ht]; exact hP)⟩, hS.F ht⟩) hS.2.2 dX11_send_101
            · have c_7 : 4 ≤ y6.toInt := il_nlt c_7
              refine lv_bipush (v := (-2)) hx hb dX11_send_51 (by decide) ?_
              exact W.iret (v := (-2)) hx hb hr (fun t ht hW => ⟨⟨(-2), mu, rfl, ⟨ok, trivial⟩, by first | (subst ht; exact hP) | (rw [ht]; exact hP) | (show va_P (dC, dI) vwCl (wR 157 ad (EX cs ad) mu) t.heap; rw [ht]; exact hP)⟩, hS.F ht⟩) hS.2.2 dX11_send_53
          · have c_5 : 9 < vf.toInt := il_nle c_5
            refine lv_iconst (v := (-1)) hx hb dX11_send_31 (by decide) ?_
            exact W.iret (v := (-1)) hx hb hr (fun t ht hW => ⟨⟨(-1), mu, rfl, ⟨ok, trivial⟩, by first | (subst ht; exact hP) | (rw [ht]; exact hP) | (show va_P (dC, dI) vwCl (wR 157 ad (EX cs ad) mu) t.heap; rw [ht]; exact hP)⟩, hS.F ht⟩) hS.2.2 dX11_send_32
  · have f1 : True := f1
    refine lv_if_eq (tgt := 31) hx hb dX11_send_6 (by decide) (fun _ => ?_) (fun c => absurd (by decide) c)
    refine lv_iconst (v := (-1)) hx hb dX11_send_31 (by decide) ?_
    exact W.iret (v := (-1)) hx hb hr (fun t ht hW => ⟨⟨(-1), mu, rfl, ⟨ok, trivial⟩, by first | (subst ht; exact hP) | (rw [ht]; exact hP) | (show va_P (dC, dI) vwCl (wR 157 ad (EX cs ad) mu) t.heap; rw [ht]; exact hP)⟩, hS.F ht⟩) hS.2.2 dX11_send_32
theorem dX11_can_0 : decode cX11_can 0 = .ok (.aload_n 0, 1) := by decide +kernel
theorem dX11_can_1 : decode cX11_can 1 = .ok (.iload_n 1, 1) := by decide +kernel
theorem dX11_can_2 : decode cX11_can 2 = .ok (.iconst 0, 1) := by decide +kernel
theorem dX11_can_3 : decode cX11_can 3 = .ok (.invokevirtual 201, 3) := by decide +kernel
theorem dX11_can_6 : decode cX11_can 6 = .ok (.istore_n 2, 1) := by decide +kernel
theorem dX11_can_7 : decode cX11_can 7 = .ok (.iload_n 2, 1) := by decide +kernel
theorem dX11_can_8 : decode cX11_can 8 = .ok (.ifCond .eq 5, 3) := by decide +kernel
theorem dX11_can_13 : decode cX11_can 13 = .ok (.aload_n 0, 1) := by decide +kernel
theorem dX11_can_14 : decode cX11_can 14 = .ok (.getfield 30, 3) := by decide +kernel
theorem dX11_can_17 : decode cX11_can 17 = .ok (.aload_n 0, 1) := by decide +kernel
theorem dX11_can_18 : decode cX11_can 18 = .ok (.getfield 30, 3) := by decide +kernel
theorem dX11_can_21 : decode cX11_can 21 = .ok (.getfield 166, 3) := by decide +kernel
theorem dX11_can_24 : decode cX11_can 24 = .ok (.getfield 188, 3) := by decide +kernel
theorem dX11_can_27 : decode cX11_can 27 = .ok (.iload_n 1, 1) := by decide +kernel
theorem dX11_can_28 : decode cX11_can 28 = .ok (.aaload, 1) := by decide +kernel
theorem dX11_can_29 : decode cX11_can 29 = .ok (.invokevirtual 205, 3) := by decide +kernel
theorem dX11_can_32 : decode cX11_can 32 = .ok (.ireturn, 1) := by decide +kernel
theorem dX11_can_11 : decode cX11_can 11 = .ok (.iload_n 2, 1) := by decide +kernel
theorem dX11_can_12 : decode cX11_can 12 = .ok (.ireturn, 1) := by decide +kernel
set_option maxHeartbeats 4000000 in
set_option maxRecDepth 100000 in
/-- qx_can -/
theorem qx_can (l : Launch) (dC : Nat → ClassId) (dI : Nat → Nat → Nat) (cs : Nat → ClassId) (ad : Nat → Nat) (mu : Nat → Nat → Int32) (ok : okR loX hiX mu) (H : Heap) (hP : va_P (dC, dI) vwCl (wR 157 ad (EX cs ad) mu) H) (hD0 : va_D (fun _ => True) (wR 157 ad (EX cs ad) mu)) (vk : Int32) : Met l yX11_can (wU yX11_can cX11_can 3 (some .int)) ({ frames := 3, cells := 0, slots := 0, locals := 76 }) (va_Pc [.ref (ad 0), .int vk] (sz_P (dC, dI) vwCl (tyW cs) H)) (va_Qi (fun (z : Int32) (xi : Nat → Nat → Int32) => okR loX hiX xi ∧ True) (fun xi t => va_P (dC, dI) vwCl (wR 157 ad (EX cs ad) xi) t.heap) (va_A (wR 157 ad (EX cs ad) mu) H.size)) 0 0 (va_A (wR 157 ad (EX cs ad) mu) H.size) := by
  refine Met.ofW (cc := cX11_can) (maxL := 3) (ret := (some .int)) (by decide) rfl ?_
  intro p e s m args below meth c s₁ B hml hv
  obtain ⟨rfl, hh, hK, hz⟩ := hv
  have hx := B.exec
  have hb := B.bytes
  have hr := B.returns
  have hts := atoms_spec (ws := (wU yX11_can cX11_can 3 (some .int))) B.pre
  have hown : s.vm.findClass RX11 = some m.cls := findClass_of_methodNamed B.named
  have hlocks := B.notSynchronized
  subst hh
  have hD := hD0.self (sz := s.heap.size)
  have hA : ∀ q : Nat, s.heap.size ≤ q → (va_A (wR 157 ad (EX cs ad) mu) s.heap.size) q := fun q h => Or.inr h
  have hS : va_S (va_A (wR 157 ad (EX cs ad) mu) s.heap.size) s.heap s.heap [] := va_S.rf
  have hl := lv_entry ([.ref (ad 0), .int vk]) (n := 3) (Nat.le_of_ble_eq_true rfl)
  rw [lg_entry_eq]
  generalize (lg_sl ([.ref (ad 0), .int vk]) ++ List.replicate (3 - (lg_sl ([.ref (ad 0), .int vk])).length) Slot.unset).toArray = ls at hl ⊢
  have hl : lv_has ls 3 [(0, .ref (ad 0)), (1, .int vk)] := hl
  refine lv_aload_n hx hb dX11_can_0 rfl (lv_at hl 0 rfl) ?_
  refine lv_iload_n hx hb dX11_can_1 rfl (lv_at hl 1 rfl) ?_
  refine lv_iconst (v := 0) hx hb dX11_can_2 (by decide) ?_
  have hFc := fr_all (wR_D mu hD) hS hA
  refine va_calli (va_runV (As := [.int vk, .int 0]) (rest := []) ⟨hx, hb, hml, hown, hts⟩ (sx_refusedLetter l dC dI cs ad mu ok s.heap hP ((wR_D mu hD).weaken (fun _ _ _ _ => trivial)) vk 0) (cwV 2 hts (wU_V (lg_at 3 157 (by decide +kernel) rfl) (lg_at 3 154 (by decide +kernel) rfl) (lg_at 3 156 (by decide +kernel) rfl) (lg_at 0 8 (by decide +kernel) rfl) (lg_at 1 1 (by decide +kernel) rfl)) rfl rfl rfl (by decide +kernel) ⟨Nat.le_of_ble_eq_true rfl, Nat.le_of_ble_eq_true rfl⟩) ⟨sz_c, va_recv hK hP (ci := 11) (q0 := 0) rfl (gX_0 cs ad mu), sz_m hK hz⟩ rfl rfl hl.1 rfl (lv_room (Nat.le_of_ble_eq_true rfl)) dX11_can_3 ⟨Nat.zero_le _, Nat.zero_le _⟩) hS (fun q _ h => hFc q h) hFc (fun r1 xi1 t H1 locs ht hvm hw1 hB hz1 hk1 hS => ?_)
  have hP : va_P (dC, dI) vwCl (wR 157 ad (EX cs ad) xi1) H1 := by rw [← ht]; exact hB
  rcases hw1 with ⟨rfl, hxi, f1⟩ | ⟨z1, ok⟩
  · have hP : va_P (dC, dI) vwCl (wR 157 ad (EX cs ad) mu) H1 := by rw [← hxi]; exact hP
    refine lv_istore_n (lv' := [(2, .int 0), (0, .ref (ad 0)), (1, .int vk)]) hx hb dX11_can_6 rfl hl (by decide) rfl (fun ls hl => ?_)
    refine lv_iload_n hx hb dX11_can_7 rfl (lv_at hl 0 rfl) ?_
    refine lv_if_eq (tgt := 13) hx hb dX11_can_8 (by decide) (fun _ => ?_) (fun c => absurd (by decide) c)
    refine lv_aload_n hx hb dX11_can_13 rfl (lv_at hl 1 rfl) ?_
    refine va_get (D := (dC, dI)) (ci := 11) (v := .ref (ad 4)) (C := RX11) (T := TX11) (N := 11) hx hb hts (fun w h => List.mem_cons_of_mem _ (inG11 w h)) hown hK hP 0 (gX_0 cs ad mu) rfl 3 (by decide) (hts (.fieldLink RX11 30 "DearLetters" "town" "LDearLetters$Town;") (List.mem_cons_of_mem _ (lg_at 2 161 (by decide +kernel) rfl))) (fun _ h9 => h9) rfl dX11_can_14 ?_
    refine lv_aload_n hx hb dX11_can_17 rfl (lv_at hl 1 rfl) ?_
    refine va_get (D := (dC, dI)) (ci := 11) (v := .ref (ad 4)) (C := RX11) (T := TX11) (N := 11) hx hb hts (fun w h => List.mem_cons_of_mem _ (inG11 w h)) hown hK hP 0 (gX_0 cs ad mu) rfl 3 (by decide) (hts (.fieldLink RX11 30 "DearLetters" "town" "LDearLetters$Town;") (List.mem_cons_of_mem _ (lg_at 2 161 (by decide +kernel) rfl))) (fun _ h9 => h9) rfl dX11_can_18 ?_
    refine va_get (D := (dC, dI)) (ci := 10) (v := .ref (ad 5)) (C := RX10) (T := TX10) (N := 8) hx hb hts (fun w h => List.mem_cons_of_mem _ (inG10 w h)) hown hK hP 4 (gX_4 cs ad mu) rfl 3 (by decide) (hts (.fieldLink RX11 166 "DearLetters$Town" "now" "LDearLetters$Standing;") (List.mem_cons_of_mem _ (lg_at 1 157 (by decide +kernel) rfl))) (fun _ h9 => h9) rfl dX11_can_21 ?_
    refine va_get (D := (dC, dI)) (ci := 8) (v := .ref (ad 47)) (C := RX8) (T := TX8) (N := 6) hx hb hts (fun w h => List.mem_cons_of_mem _ (inG8 w h)) hown hK hP 5 (gX_5 cs ad mu) rfl 1 (by decide) (hts (.fieldLink RX11 188 "DearLetters$Standing" "letters" "[LDearLetters$Letter;") (List.mem_cons_of_mem _ (lg_at 1 112 (by decide +kernel) rfl))) (fun _ h9 => h9) rfl dX11_can_24 ?_
    refine lv_iload_n hx hb dX11_can_27 rfl (lv_at hl 2 rfl) ?_
    refine va_aldq hx hb hK hP 47 5 (gX_47 cs ad mu) rfl (show vp_in vk 4 from vi_of (by omega) (by omega)) dX11_can_28 ?_
    have hvk_c := tC_of (v := vk) (by omega)
    refine lq_v (.ref (ad (61 + vk.toNatClampNeg))) rfl ?_
    refine cr_i (va_runV (As := [.ref (ad (61 + vk.toNatClampNeg))]) (rest := []) ⟨hx, hb, hml, hown, hts⟩ (sx_buyersOf l dC dI cs ad mu ok H1 hP (61 + vk.toNatClampNeg) (by omega) (by omega)) (cwV 1 hts (wU_V (lg_at 3 161 (by decide +kernel) rfl) (lg_at 3 158 (by decide +kernel) rfl) (lg_at 3 159 (by decide +kernel) rfl) (lg_at 3 160 (by decide +kernel) rfl) (lg_at 1 2 (by decide +kernel) rfl)) rfl rfl rfl (by decide +kernel) ⟨Nat.le_of_ble_eq_true rfl, Nat.le_of_ble_eq_true rfl⟩) ⟨sz_c, va_recv hK hP (ci := 10) (q0 := 4) rfl (gX_4 cs ad mu), sz_m hK hz⟩ rfl rfl hl.1 rfl (lv_room (Nat.le_of_ble_eq_true rfl)) dX11_can_29 ⟨Nat.zero_le _, Nat.zero_le _⟩) hS (fun r2 hw2 locs hS => ?_)
    exact W.iret (v := r2) hx hb hr (fun t ht hW => ⟨⟨r2, mu, rfl, ⟨ok, trivial⟩, by first | (subst ht; exact hP) | (rw [ht]; exact hP) | (show va_P (dC, dI) vwCl (wR 157 ad (EX cs ad) mu) t.heap; rw [ht]; exact hP)⟩, hS.F ht⟩) hS.2.2 dX11_can_32
  · skip
    refine lv_istore_n (lv' := [(2, .int r1), (0, .ref (ad 0)), (1, .int vk)]) hx hb dX11_can_6 rfl hl (by decide) rfl (fun ls hl => ?_)
    refine lv_iload_n hx hb dX11_can_7 rfl (lv_at hl 0 rfl) ?_
    refine lv_if_eq (tgt := 13) hx hb dX11_can_8 (by decide) (fun c_3 => by have c_3 : r1.toInt = 0 := il_eq c_3; exfalso; omega) (fun c_3 => ?_)
    have c_3 : ¬ r1.toInt = 0 := il_ne c_3
    refine lv_iload_n hx hb dX11_can_11 rfl (lv_at hl 0 rfl) ?_
    exact W.iret (v := r1) hx hb hr (fun t ht hW => ⟨⟨r1, xi1, rfl, ⟨ok, trivial⟩, by first | (subst ht; exact hP) | (rw [ht]; exact hP) | (show va_P (dC, dI) vwCl (wR 157 ad (EX cs ad) xi1) t.heap; rw [ht]; exact hP)⟩, hS.F ht⟩) hS.2.2 dX11_can_12
theorem dX11_letter_0 : decode cX11_letter 0 = .ok (.aload_n 0, 1) := by decide +kernel
theorem dX11_letter_1 : decode cX11_letter 1 = .ok (.iload_n 1, 1) := by decide +kernel
theorem dX11_letter_2 : decode cX11_letter 2 = .ok (.iload_n 2, 1) := by decide +kernel
theorem dX11_letter_3 : decode cX11_letter 3 = .ok (.ifCond .lt 8, 3) := by decide +kernel
theorem dX11_letter_11 : decode cX11_letter 11 = .ok (.iconst 1, 1) := by decide +kernel
theorem dX11_letter_12 : decode cX11_letter 12 = .ok (.goto 4, 3) := by decide +kernel
theorem dX11_letter_16 : decode cX11_letter 16 = .ok (.invokevirtual 201, 3) := by decide +kernel
theorem dX11_letter_19 : decode cX11_letter 19 = .ok (.istore_n 3, 1) := by decide +kernel
theorem dX11_letter_20 : decode cX11_letter 20 = .ok (.iload_n 3, 1) := by decide +kernel
theorem dX11_letter_21 : decode cX11_letter 21 = .ok (.ifCond .eq 5, 3) := by decide +kernel
theorem dX11_letter_26 : decode cX11_letter 26 = .ok (.aload_n 0, 1) := by decide +kernel
theorem dX11_letter_27 : decode cX11_letter 27 = .ok (.aload_n 0, 1) := by decide +kernel
theorem dX11_letter_28 : decode cX11_letter 28 = .ok (.getfield 30, 3) := by decide +kernel
theorem dX11_letter_31 : decode cX11_letter 31 = .ok (.getfield 166, 3) := by decide +kernel
theorem dX11_letter_34 : decode cX11_letter 34 = .ok (.getfield 188, 3) := by decide +kernel
theorem dX11_letter_37 : decode cX11_letter 37 = .ok (.iload_n 1, 1) := by decide +kernel
theorem dX11_letter_38 : decode cX11_letter 38 = .ok (.aaload, 1) := by decide +kernel
theorem dX11_letter_39 : decode cX11_letter 39 = .ok (.iload_n 2, 1) := by decide +kernel
theorem dX11_letter_40 : decode cX11_letter 40 = .ok (.aload_n 0, 1) := by decide +kernel
theorem dX11_letter_41 : decode cX11_letter 41 = .ok (.getfield 30, 3) := by decide +kernel
theorem dX11_letter_44 : decode cX11_letter 44 = .ok (.getfield 166, 3) := by decide +kernel
theorem dX11_letter_47 : decode cX11_letter 47 = .ok (.getfield 192, 3) := by decide +kernel
theorem dX11_letter_50 : decode cX11_letter 50 = .ok (.invokevirtual 228, 3) := by decide +kernel
theorem dX11_letter_53 : decode cX11_letter 53 = .ok (.putfield 88, 3) := by decide +kernel
theorem dX11_letter_56 : decode cX11_letter 56 = .ok (.iconst 1, 1) := by decide +kernel
theorem dX11_letter_57 : decode cX11_letter 57 = .ok (.ireturn, 1) := by decide +kernel
theorem dX11_letter_24 : decode cX11_letter 24 = .ok (.iload_n 3, 1) := by decide +kernel
theorem dX11_letter_25 : decode cX11_letter 25 = .ok (.ireturn, 1) := by decide +kernel
theorem dX11_letter_6 : decode cX11_letter 6 = .ok (.iload_n 2, 1) := by decide +kernel
theorem dX11_letter_7 : decode cX11_letter 7 = .ok (.iconst 5, 1) := by decide +kernel
theorem dX11_letter_8 : decode cX11_letter 8 = .ok (.if_icmp .lt 7, 3) := by decide +kernel
theorem dX11_letter_15 : decode cX11_letter 15 = .ok (.iconst 0, 1) := by decide +kernel
set_option maxHeartbeats 4000000 in
set_option maxRecDepth 100000 in
/-- qx_letter -/
theorem qx_letter (l : Launch) (dC : Nat → ClassId) (dI : Nat → Nat → Nat) (cs : Nat → ClassId) (ad : Nat → Nat) (mu : Nat → Nat → Int32) (ok : okR loX hiX mu) (H : Heap) (hP : va_P (dC, dI) vwCl (wR 157 ad (EX cs ad) mu) H) (hD0 : va_D (fun _ => True) (wR 157 ad (EX cs ad) mu)) (vk : Int32) (vw : Int32) : Met l yX11_letter (wU yX11_letter cX11_letter 4 (some .int)) ({ frames := 3, cells := 0, slots := 0, locals := 73 }) (va_Pc [.ref (ad 0), .int vk, .int vw] (sz_P (dC, dI) vwCl (tyW cs) H)) (va_Qi (fun (z : Int32) (xi : Nat → Nat → Int32) => okR loX hiX xi ∧ True) (fun xi t => va_P (dC, dI) vwCl (wR 157 ad (EX cs ad) xi) t.heap) (va_A (wR 157 ad (EX cs ad) mu) H.size)) 0 0 (va_A (wR 157 ad (EX cs ad) mu) H.size) := by
  refine Met.ofW (cc := cX11_letter) (maxL := 4) (ret := (some .int)) (by decide) rfl ?_
  intro p e s m args below meth c s₁ B hml hv
  obtain ⟨rfl, hh, hK, hz⟩ := hv
  have hx := B.exec
  have hb := B.bytes
  have hr := B.returns
  have hts := atoms_spec (ws := (wU yX11_letter cX11_letter 4 (some .int))) B.pre
  have hown : s.vm.findClass RX11 = some m.cls := findClass_of_methodNamed B.named
  have hlocks := B.notSynchronized
  subst hh
  have hD := hD0.self (sz := s.heap.size)
  have hA : ∀ q : Nat, s.heap.size ≤ q → (va_A (wR 157 ad (EX cs ad) mu) s.heap.size) q := fun q h => Or.inr h
  have hS : va_S (va_A (wR 157 ad (EX cs ad) mu) s.heap.size) s.heap s.heap [] := va_S.rf
  have hl := lv_entry ([.ref (ad 0), .int vk, .int vw]) (n := 4) (Nat.le_of_ble_eq_true rfl)
  rw [lg_entry_eq]
  generalize (lg_sl ([.ref (ad 0), .int vk, .int vw]) ++ List.replicate (4 - (lg_sl ([.ref (ad 0), .int vk, .int vw])).length) Slot.unset).toArray = ls at hl ⊢
  have hl : lv_has ls 4 [(0, .ref (ad 0)), (1, .int vk), (2, .int vw)] := hl
  refine lv_aload_n hx hb dX11_letter_0 rfl (lv_at hl 0 rfl) ?_
  refine lv_iload_n hx hb dX11_letter_1 rfl (lv_at hl 1 rfl) ?_
  refine lv_iload_n hx hb dX11_letter_2 rfl (lv_at hl 2 rfl) ?_
  refine lv_if_lt (tgt := 11) hx hb dX11_letter_3 (by decide) (fun c_1 => ?_) (fun c_1 => ?_)
  · have c_1 : vw.toInt < 0 := il_lt c_1
    refine lv_iconst (v := 1) hx hb dX11_letter_11 (by decide) ?_
    refine lv_goto (tgt := 16) hx hb dX11_letter_12 (by decide) ?_
    have hFc := fr_all (wR_D mu hD) hS hA
    refine va_calli (va_runV (As := [.int vk, .int 1]) (rest := []) ⟨hx, hb, hml, hown, hts⟩ (sx_refusedLetter l dC dI cs ad mu ok s.heap hP ((wR_D mu hD).weaken (fun _ _ _ _ => trivial)) vk 1) (cwV 2 hts (wU_V (lg_at 3 157 (by decide +kernel) rfl) (lg_at 3 154 (by decide +kernel) rfl) (lg_at 3 156 (by decide +kernel) rfl) (lg_at 0 8 (by decide +kernel) rfl) (lg_at 1 1 (by decide +kernel) rfl)) rfl rfl rfl (by decide +kernel) ⟨Nat.le_of_ble_eq_true rfl, Nat.le_of_ble_eq_true rfl⟩) ⟨sz_c, va_recv hK hP (ci := 11) (q0 := 0) rfl (gX_0 cs ad mu), sz_m hK hz⟩ rfl rfl hl.1 rfl (lv_room (Nat.le_of_ble_eq_true rfl)) dX11_letter_16 ⟨Nat.zero_le _, Nat.zero_le _⟩) hS (fun q _ h => hFc q h) hFc (fun r2 xi2 t H2 locs ht hvm hw2 hB hz1 hk1 hS => ?_)
    have hP : va_P (dC, dI) vwCl (wR 157 ad (EX cs ad) xi2) H2 := by rw [← ht]; exact hB
    rcases hw2 with ⟨rfl, hxi, f2⟩ | ⟨z2, ok⟩
    · have hP : va_P (dC, dI) vwCl (wR 157 ad (EX cs ad) mu) H2 := by rw [← hxi]; exact hP
      refine lv_istore_n (lv' := [(3, .int 0), (0, .ref (ad 0)), (1, .int vk), (2, .int vw)]) hx hb dX11_letter_19 rfl hl (by decide) rfl (fun ls hl => ?_)
      refine lv_iload_n hx hb dX11_letter_20 rfl (lv_at hl 0 rfl) ?_
      refine lv_if_eq (tgt := 26) hx hb dX11_letter_21 (by decide) (fun _ => ?_) (fun c => absurd (by decide) c)
      refine lv_aload_n hx hb dX11_letter_26 rfl (lv_at hl 1 rfl) ?_
      refine lv_aload_n hx hb dX11_letter_27 rfl (lv_at hl 1 rfl) ?_
      refine va_get (D := (dC, dI)) (ci := 11) (v := .ref (ad 4)) (C := RX11) (T := TX11) (N := 11) hx hb hts (fun w h => List.mem_cons_of_mem _ (inG11 w h)) hown hK hP 0 (gX_0 cs ad mu) rfl 3 (by decide) (hts (.fieldLink RX11 30 "DearLetters" "town" "LDearLetters$Town;") (List.mem_cons_of_mem _ (lg_at 2 161 (by decide +kernel) rfl))) (fun _ h9 => h9) rfl dX11_letter_28 ?_
      refine va_get (D := (dC, dI)) (ci := 10) (v := .ref (ad 5)) (C := RX10) (T := TX10) (N := 8) hx hb hts (fun w h => List.mem_cons_of_mem _ (inG10 w h)) hown hK hP 4 (gX_4 cs ad mu) rfl 3 (by decide) (hts (.fieldLink RX11 166 "DearLetters$Town" "now" "LDearLetters$Standing;") (List.mem_cons_of_mem _ (lg_at 1 157 (by decide +kernel) rfl))) (fun _ h9 => h9) rfl dX11_letter_31 ?_
      refine va_get (D := (dC, dI)) (ci := 8) (v := .ref (ad 47)) (C := RX8) (T := TX8) (N := 6) hx hb hts (fun w h => List.mem_cons_of_mem _ (inG8 w h)) hown hK hP 5 (gX_5 cs ad mu) rfl 1 (by decide) (hts (.fieldLink RX11 188 "DearLetters$Standing" "letters" "[LDearLetters$Letter;") (List.mem_cons_of_mem _ (lg_at 1 112 (by decide +kernel) rfl))) (fun _ h9 => h9) rfl dX11_letter_34 ?_
      refine lv_iload_n hx hb dX11_letter_37 rfl (lv_at hl 2 rfl) ?_
      refine va_aldq hx hb hK hP 47 5 (gX_47 cs ad mu) rfl (show vp_in vk 4 from vi_of (by omega) (by omega)) dX11_letter_38 ?_
      have hvk_c := tC_of (v := vk) (by omega)
      refine lq_v (.ref (ad (61 + vk.toNatClampNeg))) rfl ?_
      refine lv_iload_n hx hb dX11_letter_39 rfl (lv_at hl 3 rfl) ?_
      refine lv_aload_n hx hb dX11_letter_40 rfl (lv_at hl 1 rfl) ?_
      refine va_get (D := (dC, dI)) (ci := 11) (v := .ref (ad 4)) (C := RX11) (T := TX11) (N := 11) hx hb hts (fun w h => List.mem_cons_of_mem _ (inG11 w h)) hown hK hP 0 (gX_0 cs ad mu) rfl 3 (by decide) (hts (.fieldLink RX11 30 "DearLetters" "town" "LDearLetters$Town;") (List.mem_cons_of_mem _ (lg_at 2 161 (by decide +kernel) rfl))) (fun _ h9 => h9) rfl dX11_letter_41 ?_
      refine va_get (D := (dC, dI)) (ci := 10) (v := .ref (ad 5)) (C := RX10) (T := TX10) (N := 8) hx hb hts (fun w h => List.mem_cons_of_mem _ (inG10 w h)) hown hK hP 4 (gX_4 cs ad mu) rfl 3 (by decide) (hts (.fieldLink RX11 166 "DearLetters$Town" "now" "LDearLetters$Standing;") (List.mem_cons_of_mem _ (lg_at 1 157 (by decide +kernel) rfl))) (fun _ h9 => h9) rfl dX11_letter_44 ?_
      refine va_get (D := (dC, dI)) (ci := 8) (v := .int (mu 5 3)) (C := RX8) (T := TX8) (N := 6) hx hb hts (fun w h => List.mem_cons_of_mem _ (inG8 w h)) hown hK hP 5 (gX_5 cs ad mu) rfl 3 (by decide) (hts (.fieldLink RX11 192 "DearLetters$Standing" "day" "I") (List.mem_cons_of_mem _ (lg_at 1 124 (by decide +kernel) rfl))) (fun _ h9 => h9) rfl dX11_letter_47 ?_
      refine lv_topi (fun y3 ey3 => ?_)
      have by3 : y3.toInt = (mu 5 3).toInt := congrArg Int32.toInt ey3
      refine cr_i (va_runV (As := [.int vw, .int y3]) (rest := [.ref (ad 0)]) ⟨hx, hb, hml, hown, hts⟩ (sx_fact l dC dI cs ad mu ok H2 hP (61 + vk.toNatClampNeg) (by omega) (by omega) vw y3) (cwV 2 hts (wU_V (lg_at 3 200 (by decide +kernel) rfl) (lg_at 3 197 (by decide +kernel) rfl) (lg_at 3 198 (by decide +kernel) rfl) (lg_at 3 199 (by decide +kernel) rfl) (lg_at 1 4 (by decide +kernel) rfl)) rfl rfl rfl (by decide +kernel) ⟨Nat.le_of_ble_eq_true rfl, Nat.le_of_ble_eq_true rfl⟩) ⟨sz_c, va_recv hK hP (ci := 3) (q0 := (61 + vk.toNatClampNeg)) rfl (gX_letter cs ad mu (61 + vk.toNatClampNeg) (by omega) (by omega)), sz_m hK hz⟩ rfl rfl hl.1 rfl (lv_room (Nat.le_of_ble_eq_true rfl)) dX11_letter_50 ⟨Nat.zero_le _, Nat.zero_le _⟩) hS (fun r4 hw4 locs hS => ?_)
      refine va_put (D := (dC, dI)) (ci := 11) (v := .int r4) (ty := .int) (C := RX11) (T := TX11) (N := 11) hx hb hts (fun w h => List.mem_cons_of_mem _ (inG11 w h)) tyX11 tyX11_ok nmX11 hown hK hP (wR_D mu hD) hS 0 (gX_0 cs ad mu) rfl 10 (by decide) (hts (.fieldLink RX11 88 "DearLetters" "told" "I") (List.mem_cons_of_mem _ (lg_at 2 168 (by decide +kernel) rfl))) (fun _ h9 => h9) rfl (by decide +kernel) (by first | rfl | decide) (by first | rfl | decide) (Nat.le_of_ble_eq_true rfl) dX11_letter_53 (fun H locs hP _ hS => ?_)
      have hP := wR_P (upd (mu 0) 10 r4) hP (rfl)
      have ok := okR_up ok 0 10 r4 (by first | exact tI_lo _ | (unfold loX; simp (discharger := omega) only [if_pos, if_neg, and_true, true_and]; exact tI_lo _)) (by first | exact tI_hi _ | (unfold hiX; simp (discharger := omega) only [if_pos, if_neg, and_true, true_and]; exact tI_hi _))
      refine lv_iconst (v := 1) hx hb dX11_letter_56 (by decide) ?_
      exact W.iret (v := 1) hx hb hr (fun t ht hW => ⟨⟨1, (va_up mu 0 (upd (mu 0) 10 r4)), rfl, ⟨ok, trivial⟩, by first | (subst ht; exact hP) | (rw [ht]; exact hP) | (show va_P (dC, dI) vwCl (wR 157 ad (EX cs ad) (va_up mu 0 (upd (mu 0) 10 r4))) t.heap; rw [ht]; exact hP)⟩, hS.F ht⟩) hS.2.2 dX11_letter_57
    · skip
      refine lv_istore_n (lv' := [(3, .int r2), (0, .ref (ad 0)), (1, .int vk), (2, .int vw)]) hx hb dX11_letter_19 rfl hl (by decide) rfl (fun ls hl => ?_)
      refine lv_iload_n hx hb dX11_letter_20 rfl (lv_at hl 0 rfl) ?_
      refine lv_if_eq (tgt := 26) hx hb dX11_letter_21 (by decide) (fun c_5 => by have c_5 : r2.toInt = 0 := il_eq c_5; exfalso; omega) (fun c_5 => ?_)
      have c_5 : ¬ r2.toInt = 0 := il_ne c_5
      refine lv_iload_n hx hb dX11_letter_24 rfl (lv_at hl 0 rfl) ?_
      exact W.iret (v := r2) hx hb hr (fun t ht hW => ⟨⟨r2, xi2, rfl, ⟨ok, trivial⟩, by first | (subst ht; exact hP) | (rw [ht]; exact hP) | (show va_P (dC, dI) vwCl (wR 157 ad (EX cs ad) xi2) t.heap; rw [ht]; exact hP)⟩, hS.F ht⟩) hS.2.2 dX11_letter_25
  · have c_1 : 0 ≤ vw.toInt := il_nlt c_1
    refine lv_iload_n hx hb dX11_letter_6 rfl (lv_at hl 2 rfl) ?_
    refine lv_iconst (v := 5) hx hb dX11_letter_7 (by decide) ?_
    refine lv_icmp_lt (tgt := 15) hx hb dX11_letter_8 (by decide) (fun c_6 => ?_) (fun c_6 => ?_)
    · have c_6 : vw.toInt < 5 := il_lt c_6
      refine lv_iconst (v := 0) hx hb dX11_letter_15 (by decide) ?_
      have hFc := fr_all (wR_D mu hD) hS hA
      refine va_calli (va_runV (As := [.int vk, .int 0]) (rest := []) ⟨hx, hb, hml, hown, hts⟩ (sx_refusedLetter l dC dI cs ad mu ok s.heap hP ((wR_D mu hD).weaken (fun _ _ _ _ => trivial)) vk 0) (cwV 2 hts (wU_V (lg_at 3 157 (by decide +kernel) rfl) (lg_at 3 154 (by decide +kernel) rfl) (lg_at 3 156 (by decide +kernel) rfl) (lg_at 0 8 (by decide +kernel) rfl) (lg_at 1 1 (by decide +kernel) rfl)) rfl rfl rfl (by decide +kernel) ⟨Nat.le_of_ble_eq_true rfl, Nat.le_of_ble_eq_true rfl⟩) ⟨sz_c, va_recv hK hP (ci := 11) (q0 := 0) rfl (gX_0 cs ad mu), sz_m hK hz⟩ rfl rfl hl.1 rfl (lv_room (Nat.le_of_ble_eq_true rfl)) dX11_letter_16 ⟨Nat.zero_le _, Nat.zero_le _⟩) hS (fun q _ h => hFc q h) hFc (fun r7 xi7 t H7 locs ht hvm hw7 hB hz1 hk1 hS => ?_)
      have hP : va_P (dC, dI) vwCl (wR 157 ad (EX cs ad) xi7) H7 := by rw [← ht]; exact hB
      rcases hw7 with ⟨rfl, hxi, f7⟩ | ⟨z7, ok⟩
      · have hP : va_P (dC, dI) vwCl (wR 157 ad (EX cs ad) mu) H7 := by rw [← hxi]; exact hP
        refine lv_istore_n (lv' := [(3, .int 0), (0, .ref (ad 0)), (1, .int vk), (2, .int vw)]) hx hb dX11_letter_19 rfl hl (by decide) rfl (fun ls hl => ?_)
        refine lv_iload_n hx hb dX11_letter_20 rfl (lv_at hl 0 rfl) ?_
        refine lv_if_eq (tgt := 26) hx hb dX11_letter_21 (by decide) (fun _ => ?_) (fun c => absurd (by decide) c)
        refine lv_aload_n hx hb dX11_letter_26 rfl (lv_at hl 1 rfl) ?_
        refine lv_aload_n hx hb dX11_letter_27 rfl (lv_at hl 1 rfl) ?_
        refine va_get (D := (dC, dI)) (ci := 11) (v := .ref (ad 4)) (C := RX11) (T := TX11) (N := 11) hx hb hts (fun w h => List.mem_cons_of_mem _ (inG11 w h)) hown hK hP 0 (gX_0 cs ad mu) rfl 3 (by decide) (hts (.fieldLink RX11 30 "DearLetters" "town" "LDearLetters$Town;") (List.mem_cons_of_mem _ (lg_at 2 161 (by decide +kernel) rfl))) (fun _ h9 => h9) rfl dX11_letter_28 ?_
        refine va_get (D := (dC, dI)) (ci := 10) (v := .ref (ad 5)) (C := RX10) (T := TX10) (N := 8) hx hb hts (fun w h => List.mem_cons_of_mem _ (inG10 w h)) hown hK hP 4 (gX_4 cs ad mu) rfl 3 (by decide) (hts (.fieldLink RX11 166 "DearLetters$Town" "now" "LDearLetters$Standing;") (List.mem_cons_of_mem _ (lg_at 1 157 (by decide +kernel) rfl))) (fun _ h9 => h9) rfl dX11_letter_31 ?_
        refine va_get (D := (dC, dI)) (ci := 8) (v := .ref (ad 47)) (C := RX8) (T := TX8) (N := 6) hx hb hts (fun w h => List.mem_cons_of_mem _ (inG8 w h)) hown hK hP 5 (gX_5 cs ad mu) rfl 1 (by decide) (hts (.fieldLink RX11 188 "DearLetters$Standing" "letters" "[LDearLetters$Letter;") (List.mem_cons_of_mem _ (lg_at 1 112 (by decide +kernel) rfl))) (fun _ h9 => h9) rfl dX11_letter_34 ?_
        refine lv_iload_n hx hb dX11_letter_37 rfl (lv_at hl 2 rfl) ?_
        refine va_aldq hx hb hK hP 47 5 (gX_47 cs ad mu) rfl (show vp_in vk 4 from vi_of (by omega) (by omega)) dX11_letter_38 ?_
        have hvk_c := tC_of (v := vk) (by omega)
        refine lq_v (.ref (ad (61 + vk.toNatClampNeg))) rfl ?_
        refine lv_iload_n hx hb dX11_letter_39 rfl (lv_at hl 3 rfl) ?_
        refine lv_aload_n hx hb dX11_letter_40 rfl (lv_at hl 1 rfl) ?_
        refine va_get (D := (dC, dI)) (ci := 11) (v := .ref (ad 4)) (C := RX11) (T := TX11) (N := 11) hx hb hts (fun w h => List.mem_cons_of_mem _ (inG11 w h)) hown hK hP 0 (gX_0 cs ad mu) rfl 3 (by decide) (hts (.fieldLink RX11 30 "DearLetters" "town" "LDearLetters$Town;") (List.mem_cons_of_mem _ (lg_at 2 161 (by decide +kernel) rfl))) (fun _ h9 => h9) rfl dX11_letter_41 ?_
        refine va_get (D := (dC, dI)) (ci := 10) (v := .ref (ad 5)) (C := RX10) (T := TX10) (N := 8) hx hb hts (fun w h => List.mem_cons_of_mem _ (inG10 w h)) hown hK hP 4 (gX_4 cs ad mu) rfl 3 (by decide) (hts (.fieldLink RX11 166 "DearLetters$Town" "now" "LDearLetters$Standing;") (List.mem_cons_of_mem _ (lg_at 1 157 (by decide +kernel) rfl))) (fun _ h9 => h9) rfl dX11_letter_44 ?_
        refine va_get (D := (dC, dI)) (ci := 8) (v := .int (mu 5 3)) (C := RX8) (T := TX8) (N := 6) hx hb hts (fun w h => List.mem_cons_of_mem _ (inG8 w h)) hown hK hP 5 (gX_5 cs ad mu) rfl 3 (by decide) (hts (.fieldLink RX11 192 "DearLetters$Standing" "day" "I") (List.mem_cons_of_mem _ (lg_at 1 124 (by decide +kernel) rfl))) (fun _ h9 => h9) rfl dX11_letter_47 ?_
        refine lv_topi (fun y8 ey8 => ?_)
        have by8 : y8.toInt = (mu 5 3).toInt := congrArg Int32.toInt ey8
        refine cr_i (va_runV (As := [.int vw, .int y8]) (rest := [.ref (ad 0)]) ⟨hx, hb, hml, hown, hts⟩ (sx_fact l dC dI cs ad mu ok H7 hP (61 + vk.toNatClampNeg) (by omega) (by omega) vw y8) (cwV 2 hts (wU_V (lg_at 3 200 (by decide +kernel) rfl) (lg_at 3 197 (by decide +kernel) rfl) (lg_at 3 198 (by decide +kernel) rfl) (lg_at 3 199 (by decide +kernel) rfl) (lg_at 1 4 (by decide +kernel) rfl)) rfl rfl rfl (by decide +kernel) ⟨Nat.le_of_ble_eq_true rfl, Nat.le_of_ble_eq_true rfl⟩) ⟨sz_c, va_recv hK hP (ci := 3) (q0 := (61 + vk.toNatClampNeg)) rfl (gX_letter cs ad mu (61 + vk.toNatClampNeg) (by omega) (by omega)), sz_m hK hz⟩ rfl rfl hl.1 rfl (lv_room (Nat.le_of_ble_eq_true rfl)) dX11_letter_50 ⟨Nat.zero_le _, Nat.zero_le _⟩) hS (fun r9 hw9 locs hS => ?_)
        refine va_put (D := (dC, dI)) (ci := 11) (v := .int r9) (ty := .int) (C := RX11) (T := TX11) (N := 11) hx hb hts (fun w h => List.mem_cons_of_mem _ (inG11 w h)) tyX11 tyX11_ok nmX11 hown hK hP (wR_D mu hD) hS 0 (gX_0 cs ad mu) rfl 10 (by decide) (hts (.fieldLink RX11 88 "DearLetters" "told" "I") (List.mem_cons_of_mem _ (lg_at 2 168 (by decide +kernel) rfl))) (fun _ h9 => h9) rfl (by decide +kernel) (by first | rfl | decide) (by first | rfl | decide) (Nat.le_of_ble_eq_true rfl) dX11_letter_53 (fun H locs hP _ hS => ?_)
        have hP := wR_P (upd (mu 0) 10 r9) hP (rfl)
        have ok := okR_up ok 0 10 r9 (by first | exact tI_lo _ | (unfold loX; simp (discharger := omega) only [if_pos, if_neg, and_true, true_and]; exact tI_lo _)) (by first | exact tI_hi _ | (unfold hiX; simp (discharger := omega) only [if_pos, if_neg, and_true, true_and]; exact tI_hi _))
        refine lv_iconst (v := 1) hx hb dX11_letter_56 (by decide) ?_
        exact W.iret (v := 1) hx hb hr (fun t ht hW => ⟨⟨1, (va_up mu 0 (upd (mu 0) 10 r9)), rfl, ⟨ok, trivial⟩, by first | (subst ht; exact hP) | (rw [ht]; exact hP) | (show va_P (dC, dI) vwCl (wR 157 ad (EX cs ad) (va_up mu 0 (upd (mu 0) 10 r9))) t.heap; rw [ht]; exact hP)⟩, hS.F ht⟩) hS.2.2 dX11_letter_57
      · skip
        refine lv_istore_n (lv' := [(3, .int r7), (0, .ref (ad 0)), (1, .int vk), (2, .int vw)]) hx hb dX11_letter_19 rfl hl (by decide) rfl (fun ls hl => ?_)
        refine lv_iload_n hx hb dX11_letter_20 rfl (lv_at hl 0 rfl) ?_
        refine lv_if_eq (tgt := 26) hx hb dX11_letter_21 (by decide) (fun c_10 => by have c_10 : r7.toInt = 0 := il_eq c_10; exfalso; omega) (fun c_10 => ?_)
        have c_10 : ¬ r7.toInt = 0 := il_ne c_10
        refine lv_iload_n hx hb dX11_letter_24 rfl (lv_at hl 0 rfl) ?_
        exact W.iret (v := r7) hx hb hr (fun t ht hW => ⟨⟨r7, xi7, rfl, ⟨ok, trivial⟩, by first | (subst ht; exact hP) | (rw [ht]; exact hP) | (show va_P (dC, dI) vwCl (wR 157 ad (EX cs ad) xi7) t.heap; rw [ht]; exact hP)⟩, hS.F ht⟩) hS.2.2 dX11_letter_25
    · have c_6 : 5 ≤ vw.toInt := il_nlt c_6
      refine lv_iconst (v := 1) hx hb dX11_letter_11 (by decide) ?_
      refine lv_goto (tgt := 16) hx hb dX11_letter_12 (by decide) ?_
      have hFc := fr_all (wR_D mu hD) hS hA
      refine va_calli (va_runV (As := [.int vk, .int 1]) (rest := []) ⟨hx, hb, hml, hown, hts⟩ (sx_refusedLetter l dC dI cs ad mu ok s.heap hP ((wR_D mu hD).weaken (fun _ _ _ _ => trivial)) vk 1) (cwV 2 hts (wU_V (lg_at 3 157 (by decide +kernel) rfl) (lg_at 3 154 (by decide +kernel) rfl) (lg_at 3 156 (by decide +kernel) rfl) (lg_at 0 8 (by decide +kernel) rfl) (lg_at 1 1 (by decide +kernel) rfl)) rfl rfl rfl (by decide +kernel) ⟨Nat.le_of_ble_eq_true rfl, Nat.le_of_ble_eq_true rfl⟩) ⟨sz_c, va_recv hK hP (ci := 11) (q0 := 0) rfl (gX_0 cs ad mu), sz_m hK hz⟩ rfl rfl hl.1 rfl (lv_room (Nat.le_of_ble_eq_true rfl)) dX11_letter_16 ⟨Nat.zero_le _, Nat.zero_le _⟩) hS (fun q _ h => hFc q h) hFc (fun r11 xi11 t H11 locs ht hvm hw11 hB hz1 hk1 hS => ?_)
      have hP : va_P (dC, dI) vwCl (wR 157 ad (EX cs ad) xi11) H11 := by rw [← ht]; exact hB
      rcases hw11 with ⟨rfl, hxi, f11⟩ | ⟨z11, ok⟩
      · have hP : va_P (dC, dI) vwCl (wR 157 ad (EX cs ad) mu) H11 := by rw [← hxi]; exact hP
        refine lv_istore_n (lv' := [(3, .int 0), (0, .ref (ad 0)), (1, .int vk), (2, .int vw)]) hx hb dX11_letter_19 rfl hl (by decide) rfl (fun ls hl => ?_)
        refine lv_iload_n hx hb dX11_letter_20 rfl (lv_at hl 0 rfl) ?_
        refine lv_if_eq (tgt := 26) hx hb dX11_letter_21 (by decide) (fun _ => ?_) (fun c => absurd (by decide) c)
        refine lv_aload_n hx hb dX11_letter_26 rfl (lv_at hl 1 rfl) ?_
        refine lv_aload_n hx hb dX11_letter_27 rfl (lv_at hl 1 rfl) ?_
        refine va_get (D := (dC, dI)) (ci := 11) (v := .ref (ad 4)) (C := RX11) (T := TX11) (N := 11) hx hb hts (fun w h => List.mem_cons_of_mem _ (inG11 w h)) hown hK hP 0 (gX_0 cs ad mu) rfl 3 (by decide) (hts (.fieldLink RX11 30 "DearLetters" "town" "LDearLetters$Town;") (List.mem_cons_of_mem _ (lg_at 2 161 (by decide +kernel) rfl))) (fun _ h9 => h9) rfl dX11_letter_28 ?_
        refine va_get (D := (dC, dI)) (ci := 10) (v := .ref (ad 5)) (C := RX10) (T := TX10) (N := 8) hx hb hts (fun w h => List.mem_cons_of_mem _ (inG10 w h)) hown hK hP 4 (gX_4 cs ad mu) rfl 3 (by decide) (hts (.fieldLink RX11 166 "DearLetters$Town" "now" "LDearLetters$Standing;") (List.mem_cons_of_mem _ (lg_at 1 157 (by decide +kernel) rfl))) (fun _ h9 => h9) rfl dX11_letter_31 ?_
        refine va_get (D := (dC, dI)) (ci := 8) (v := .ref (ad 47)) (C := RX8) (T := TX8) (N := 6) hx hb hts (fun w h => List.mem_cons_of_mem _ (inG8 w h)) hown hK hP 5 (gX_5 cs ad mu) rfl 1 (by decide) (hts (.fieldLink RX11 188 "DearLetters$Standing" "letters" "[LDearLetters$Letter;") (List.mem_cons_of_mem _ (lg_at 1 112 (by decide +kernel) rfl))) (fun _ h9 => h9) rfl dX11_letter_34 ?_
        refine lv_iload_n hx hb dX11_letter_37 rfl (lv_at hl 2 rfl) ?_
        refine va_aldq hx hb hK hP 47 5 (gX_47 cs ad mu) rfl (show vp_in vk 4 from vi_of (by omega) (by omega)) dX11_letter_38 ?_
        have hvk_c := tC_of (v := vk) (by omega)
        refine lq_v (.ref (ad (61 + vk.toNatClampNeg))) rfl ?_
        refine lv_iload_n hx hb dX11_letter_39 rfl (lv_at hl 3 rfl) ?_
        refine lv_aload_n hx hb dX11_letter_40 rfl (lv_at hl 1 rfl) ?_
        refine va_get (D := (dC, dI)) (ci := 11) (v := .ref (ad 4)) (C := RX11) (T := TX11) (N := 11) hx hb hts (fun w h => List.mem_cons_of_mem _ (inG11 w h)) hown hK hP 0 (gX_0 cs ad mu) rfl 3 (by decide) (hts (.fieldLink RX11 30 "DearLetters" "town" "LDearLetters$Town;") (List.mem_cons_of_mem _ (lg_at 2 161 (by decide +kernel) rfl))) (fun _ h9 => h9) rfl dX11_letter_41 ?_
        refine va_get (D := (dC, dI)) (ci := 10) (v := .ref (ad 5)) (C := RX10) (T := TX10) (N := 8) hx hb hts (fun w h => List.mem_cons_of_mem _ (inG10 w h)) hown hK hP 4 (gX_4 cs ad mu) rfl 3 (by decide) (hts (.fieldLink RX11 166 "DearLetters$Town" "now" "LDearLetters$Standing;") (List.mem_cons_of_mem _ (lg_at 1 157 (by decide +kernel) rfl))) (fun _ h9 => h9) rfl dX11_letter_44 ?_
        refine va_get (D := (dC, dI)) (ci := 8) (v := .int (mu 5 3)) (C := RX8) (T := TX8) (N := 6) hx hb hts (fun w h => List.mem_cons_of_mem _ (inG8 w h)) hown hK hP 5 (gX_5 cs ad mu) rfl 3 (by decide) (hts (.fieldLink RX11 192 "DearLetters$Standing" "day" "I") (List.mem_cons_of_mem _ (lg_at 1 124 (by decide +kernel) rfl))) (fun _ h9 => h9) rfl dX11_letter_47 ?_
        refine lv_topi (fun y12 ey12 => ?_)
        have by12 : y12.toInt = (mu 5 3).toInt := congrArg Int32.toInt ey12
        refine cr_i (va_runV (As := [.int vw, .int y12]) (rest := [.ref (ad 0)]) ⟨hx, hb, hml, hown, hts⟩ (sx_fact l dC dI cs ad mu ok H11 hP (61 + vk.toNatClampNeg) (by omega) (by omega) vw y12) (cwV 2 hts (wU_V (lg_at 3 200 (by decide +kernel) rfl) (lg_at 3 197 (by decide +kernel) rfl) (lg_at 3 198 (by decide +kernel) rfl) (lg_at 3 199 (by decide +kernel) rfl) (lg_at 1 4 (by decide +kernel) rfl)) rfl rfl rfl (by decide +kernel) ⟨Nat.le_of_ble_eq_true rfl, Nat.le_of_ble_eq_true rfl⟩) ⟨sz_c, va_recv hK hP (ci := 3) (q0 := (61 + vk.toNatClampNeg)) rfl (gX_letter cs ad mu (61 + vk.toNatClampNeg) (by omega) (by omega)), sz_m hK hz⟩ rfl rfl hl.1 rfl (lv_room (Nat.le_of_ble_eq_true rfl)) dX11_letter_50 ⟨Nat.zero_le _, Nat.zero_le _⟩) hS (fun r13 hw13 locs hS => ?_)
        refine va_put (D := (dC, dI)) (ci := 11) (v := .int r13) (ty := .int) (C := RX11) (T := TX11) (N := 11) hx hb hts (fun w h => List.mem_cons_of_mem _ (inG11 w h)) tyX11 tyX11_ok nmX11 hown hK hP (wR_D mu hD) hS 0 (gX_0 cs ad mu) rfl 10 (by decide) (hts (.fieldLink RX11 88 "DearLetters" "told" "I") (List.mem_cons_of_mem _ (lg_at 2 168 (by decide +kernel) rfl))) (fun _ h9 => h9) rfl (by decide +kernel) (by first | rfl | decide) (by first | rfl | decide) (Nat.le_of_ble_eq_true rfl) dX11_letter_53 (fun H locs hP _ hS => ?_)
        have hP := wR_P (upd (mu 0) 10 r13) hP (rfl)
        have ok := okR_up ok 0 10 r13 (by first | exact tI_lo _ | (unfold loX; simp (discharger := omega) only [if_pos, if_neg, and_true, true_and]; exact tI_lo _)) (by first | exact tI_hi _ | (unfold hiX; simp (discharger := omega) only [if_pos, if_neg, and_true, true_and]; exact tI_hi _))
        refine lv_iconst (v := 1) hx hb dX11_letter_56 (by decide) ?_
        exact W.iret (v := 1) hx hb hr (fun t ht hW => ⟨⟨1, (va_up mu 0 (upd (mu 0) 10 r13)), rfl, ⟨ok, trivial⟩, by first | (subst ht; exact hP) | (rw [ht]; exact hP) | (show va_P (dC, dI) vwCl (wR 157 ad (EX cs ad) (va_up mu 0 (upd (mu 0) 10 r13))) t.heap; rw [ht]; exact hP)⟩, hS.F ht⟩) hS.2.2 dX11_letter_57
      · skip
        refine lv_istore_n (lv' := [(3, .int r11), (0, .ref (ad 0)), (1, .int vk), (2, .int vw)]) hx hb dX11_letter_19 rfl hl (by decide) rfl (fun ls hl => ?_)
        refine lv_iload_n hx hb dX11_letter_20 rfl (lv_at hl 0 rfl) ?_
        refine lv_if_eq (tgt := 26) hx hb dX11_letter_21 (by decide) (fun c_14 => by have c_14 : r11.toInt = 0 := il_eq c_14; exfalso; omega) (fun c_14 => ?_)
        have c_14 : ¬ r11.toInt = 0 := il_ne c_14
        refine lv_iload_n hx hb dX11_letter_24 rfl (lv_at hl 0 rfl) ?_
        exact W.iret (v := r11) hx hb hr (fun t ht hW => ⟨⟨r11, xi11, rfl, ⟨ok, trivial⟩, by first | (subst ht; exact hP) | (rw [ht]; exact hP) | (show va_P (dC, dI) vwCl (wR 157 ad (EX cs ad) xi11) t.heap; rw [ht]; exact hP)⟩, hS.F ht⟩) hS.2.2 dX11_letter_25
