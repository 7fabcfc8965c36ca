theorem dX12_setRow_0 : decode cX12_setRow 0 = .ok (.aload_n 0, 1) := by decide +kernel
theorem dX12_setRow_1 : decode cX12_setRow 1 = .ok (.getfield 16, 3) := by decide +kernel
theorem dX12_setRow_4 : decode cX12_setRow 4 = .ok (.bipush 40, 2) := by decide +kernel
theorem dX12_setRow_6 : decode cX12_setRow 6 = .ok (.iload_n 1, 1) := by decide +kernel
theorem dX12_setRow_7 : decode cX12_setRow 7 = .ok (.imul, 1) := by decide +kernel
theorem dX12_setRow_8 : decode cX12_setRow 8 = .ok (.iload_n 2, 1) := by decide +kernel
theorem dX12_setRow_9 : decode cX12_setRow 9 = .ok (.iadd, 1) := by decide +kernel
theorem dX12_setRow_10 : decode cX12_setRow 10 = .ok (.iload_n 3, 1) := by decide +kernel
theorem dX12_setRow_11 : decode cX12_setRow 11 = .ok (.iastore, 1) := by decide +kernel
theorem dX12_setRow_12 : decode cX12_setRow 12 = .ok (.return_, 1) := by decide +kernel
set_option maxHeartbeats 4000000 in
set_option maxRecDepth 100000 in
/-- setRow: a place of the rows -/
theorem cm_setRow (l : Launch) (dC : Nat → ClassId) (dI : Nat → Nat → Nat) (cs : Nat → ClassId) (ad : Nat → Nat) (H : Heap) (f : Nat → Int32) (vr vi vv : Int32) (hr0 : vp_in vr 6) (hi0 : vp_in vi 40) (hP : va_P (dC, dI) vwCl [wMobj ad 0 0 0 0, (ad 3, .inl (cs 3, 240, .inl f))] H) (hD0 : va_D (fun _ => True) [wMobj ad 0 0 0 0, (ad 3, .inl (cs 3, 240, .inl f))]) : Met l yX12_setRow wsX12_setRow ({ frames := 0, cells := 0, slots := 0, locals := 0 }) (va_Pc [.ref (ad 0), .int vr, .int vi, .int vv] (pb_P (dC, dI) vwCl [(cs 3, .int)] H)) (va_Qv (fun (_ : Nat → Int32) => True) (fun g t => va_P (dC, dI) vwCl [wMobj ad 0 0 0 0, (ad 3, .inl (cs 3, 240, .inl g))] t.heap) (va_A [wMobj ad 0 0 0 0, (ad 3, .inl (cs 3, 240, .inl f))] H.size)) 0 0 (va_A [wMobj ad 0 0 0 0, (ad 3, .inl (cs 3, 240, .inl f))] H.size) := by
  refine Met.ofW (cc := cX12_setRow) (maxL := 4) (ret := none) (by decide) rfl ?_
  intro p e s m args below meth c s₁ B hml hv
  obtain ⟨rfl, hh, hK⟩ := hv
  have hx := B.exec
  have hb := B.bytes
  have hr := B.returns
  have hts := atoms_spec (ws := wsX12_setRow) B.pre
  have hown : s.vm.findClass RX12 = some m.cls := findClass_of_methodNamed B.named
  have hlocks := B.notSynchronized
  subst hh
  have hD := hD0.self (sz := s.heap.size)
  have hA : ∀ q : Nat, s.heap.size ≤ q → va_A [wMobj ad 0 0 0 0, (ad 3, .inl (cs 3, 240, .inl f))] s.heap.size q := fun q h => Or.inr h
  have hS : va_S (va_A [wMobj ad 0 0 0 0, (ad 3, .inl (cs 3, 240, .inl f))] s.heap.size) s.heap s.heap [] := va_S.rf
  have hl := lv_entry ([.ref (ad 0), .int vr, .int vi, .int vv]) (n := 4) (Nat.le_of_ble_eq_true rfl)
  rw [lg_entry_eq]
  generalize (lg_sl ([.ref (ad 0), .int vr, .int vi, .int vv]) ++ List.replicate (4 - (lg_sl ([.ref (ad 0), .int vr, .int vi, .int vv])).length) Slot.unset).toArray = ls at hl ⊢
  have hl : lv_has ls 4 [(0, .ref (ad 0)), (1, .int vr), (2, .int vi), (3, .int vv)] := hl
  refine lv_aload_n hx hb dX12_setRow_0 rfl (lv_at hl 0 rfl) ?_
  refine va_get (D := (dC, dI)) (ci := 12) (v := .ref (ad 3)) (C := RX12) (T := TX12) (N := 46) hx hb hts (by decide +kernel) hown hK hP 0 rfl rfl 4 (by decide) (hts (.fieldLink RX12 16 "DearLettersModel" "rows" "[I") (by decide +kernel)) (fun _ h9 => h9) rfl dX12_setRow_1 ?_
  refine lv_bipush (v := 40) hx hb dX12_setRow_4 (by decide) ?_
  refine lv_iload_n hx hb dX12_setRow_6 rfl (lv_at hl 1 rfl) ?_
  refine lv_imul hx hb dX12_setRow_7 ?_
  refine lv_iload_n hx hb dX12_setRow_8 rfl (lv_at hl 2 rfl) ?_
  refine lv_iadd hx hb dX12_setRow_9 ?_
  refine lv_iload_n hx hb dX12_setRow_10 rfl (lv_at hl 3 rfl) ?_
  refine va_iast hx hb hK hP hD hS 1 0 rfl rfl (lx_ixR hr0 hi0) dX12_setRow_11 (fun H locs hP hD hS => ?_)
  exact W.vret hx hb hr (fun t ht hW => ⟨⟨upd f (40 * vr + vi).toNatClampNeg vv, rfl, trivial, by subst ht; exact hP⟩, hS.F ht⟩) hS.2.2 dX12_setRow_12
theorem dX12_row_0 : decode cX12_row 0 = .ok (.iload_n 1, 1) := by decide +kernel
theorem dX12_row_1 : decode cX12_row 1 = .ok (.invokestatic 81, 3) := by decide +kernel
theorem dX12_row_4 : decode cX12_row 4 = .ok (.ifCond .eq 9, 3) := by decide +kernel
theorem dX12_row_7 : decode cX12_row 7 = .ok (.iload_n 2, 1) := by decide +kernel
theorem dX12_row_8 : decode cX12_row 8 = .ok (.bipush 40, 2) := by decide +kernel
theorem dX12_row_10 : decode cX12_row 10 = .ok (.if_icmp .le 5, 3) := by decide +kernel
theorem dX12_row_15 : decode cX12_row 15 = .ok (.iload_n 2, 1) := by decide +kernel
theorem dX12_row_16 : decode cX12_row 16 = .ok (.ifCond .ge 9, 3) := by decide +kernel
theorem dX12_row_25 : decode cX12_row 25 = .ok (.aload_n 0, 1) := by decide +kernel
theorem dX12_row_26 : decode cX12_row 26 = .ok (.getfield 13, 3) := by decide +kernel
theorem dX12_row_29 : decode cX12_row 29 = .ok (.iload_n 1, 1) := by decide +kernel
theorem dX12_row_30 : decode cX12_row 30 = .ok (.iload_n 2, 1) := by decide +kernel
theorem dX12_row_31 : decode cX12_row 31 = .ok (.iastore, 1) := by decide +kernel
theorem dX12_row_34 : decode cX12_row 34 = .ok (.iload_n 3, 1) := by decide +kernel
theorem dX12_row_35 : decode cX12_row 35 = .ok (.bipush 40, 2) := by decide +kernel
theorem dX12_row_37 : decode cX12_row 37 = .ok (.if_icmp .ge 16, 3) := by decide +kernel
theorem dX12_row_53 : decode cX12_row 53 = .ok (.iload_n 2, 1) := by decide +kernel
theorem dX12_row_54 : decode cX12_row 54 = .ok (.ireturn, 1) := by decide +kernel
theorem dX12_row_40 : decode cX12_row 40 = .ok (.aload_n 0, 1) := by decide +kernel
theorem dX12_row_41 : decode cX12_row 41 = .ok (.iload_n 1, 1) := by decide +kernel
theorem dX12_row_42 : decode cX12_row 42 = .ok (.iload_n 3, 1) := by decide +kernel
theorem dX12_row_43 : decode cX12_row 43 = .ok (.iconst 0, 1) := by decide +kernel
theorem dX12_row_44 : decode cX12_row 44 = .ok (.invokevirtual 92, 3) := by decide +kernel
theorem dX12_row_47 : decode cX12_row 47 = .ok (.iinc 3 1, 3) := by decide +kernel
theorem dX12_row_50 : decode cX12_row 50 = .ok (.goto (-16), 3) := by decide +kernel
theorem dX12_row_32 : decode cX12_row 32 = .ok (.iconst 0, 1) := by decide +kernel
theorem dX12_row_33 : decode cX12_row 33 = .ok (.istore_n 3, 1) := by decide +kernel
theorem dX12_row_19 : decode cX12_row 19 = .ok (.aload_n 0, 1) := by decide +kernel
theorem dX12_row_20 : decode cX12_row 20 = .ok (.iconst 5, 1) := by decide +kernel
theorem dX12_row_21 : decode cX12_row 21 = .ok (.invokevirtual 85, 3) := by decide +kernel
theorem dX12_row_24 : decode cX12_row 24 = .ok (.ireturn, 1) := by decide +kernel
theorem dX12_row_13 : decode cX12_row 13 = .ok (.iconst (-1), 1) := by decide +kernel
theorem dX12_row_14 : decode cX12_row 14 = .ok (.ireturn, 1) := by decide +kernel
set_option maxRecDepth 20000 in
theorem ggX12_row_X12_isRow : GoodIn wsX12_row wsX12_isRow := goodIn_r _ [5, 6, 7, 4, 8] (by decide +kernel) (by decide +kernel)
set_option maxRecDepth 20000 in
theorem gX12_row_X12_isRow : GoodIn wsX12_row (va_wsS RX12 81 yX12_isRow wsX12_isRow) := goodIn_app (goodIn_of _ (by decide +kernel)) ggX12_row_X12_isRow
set_option maxRecDepth 20000 in
theorem ggX12_row_X12_setRow : GoodIn wsX12_row wsX12_setRow := goodIn_r _ [18, 19, 20, 21, 22, 23, 24, 25, 26, 27, 28, 29, 30, 31, 32, 33, 34, 35, 36, 37, 38, 39, 40, 41, 42, 43, 44, 45, 46, 47, 48, 49, 50, 51, 52, 53, 54, 55, 56, 57, 58, 59, 60, 61, 62, 63, 64, 65] (by decide +kernel) (by decide +kernel)
set_option maxRecDepth 20000 in
theorem gX12_row_X12_setRow : GoodIn wsX12_row (wsV RX12 92 RX12 yX12_setRow wsX12_setRow) := goodIn_app (goodIn_of _ (by decide +kernel)) ggX12_row_X12_setRow
set_option maxRecDepth 20000 in
theorem ggX12_row_X12_meet : GoodIn wsX12_row wsX12_meet := goodIn_r _ [12, 13, 14, 20, 21, 22, 23, 24, 25, 26, 27, 28, 29, 30, 31, 32, 33, 34, 35, 36, 37, 38, 39, 40, 41, 42, 43, 44, 45, 46, 47, 48, 49, 50, 51, 52, 53, 54, 55, 56, 57, 58, 59, 60, 61, 62, 63, 64, 65] (by decide +kernel) (by decide +kernel)
set_option maxRecDepth 20000 in
theorem gX12_row_X12_meet : GoodIn wsX12_row (wsV RX12 85 RX12 yX12_meet wsX12_meet) := goodIn_app (goodIn_of _ (by decide +kernel)) ggX12_row_X12_meet
set_option maxHeartbeats 4000000 in
set_option maxRecDepth 100000 in
/-- row -/
theorem pm_row (l : Launch) (dC : Nat → ClassId) (dI : Nat → Nat → Nat) (cs : Nat → ClassId) (ad : Nat → Nat) (H : Heap) (hP : va_P (dC, dI) vwCl (wM cs ad 0) H) (hD0 : va_D (fun _ => True) (wM cs ad 0)) (vr : Int32) (vn : Int32) : Met l yX12_row wsX12_row ({ frames := 2, cells := 0, slots := 0, locals := 42 }) (va_Pc [.ref (ad 0), .int vr, .int vn] (pb_P (dC, dI) vwCl (tyM cs) H)) (va_Qi (fun (z : Int32) (_ : Unit) => z = sf_row vr vn) (fun _ _ => True) (va_A (wM cs ad 0) H.size)) 0 0 (va_A (wM cs ad 0) H.size) := by
  refine Met.ofW (cc := cX12_row) (maxL := 4) (ret := (some .int)) (by decide) rfl ?_
  intro p e s m args below meth c s₁ B hml hv
  obtain ⟨rfl, hh, hK⟩ := hv
  have hx := B.exec
  have hb := B.bytes
  have hr := B.returns
  have hts := atoms_spec (ws := wsX12_row) B.pre
  have hown : s.vm.findClass RX12 = some m.cls := findClass_of_methodNamed B.named
  have hlocks := B.notSynchronized
  subst hh
  have hD := hD0.self (sz := s.heap.size)
  have hA : ∀ q : Nat, s.heap.size ≤ q → va_A (wM cs ad 0) s.heap.size q := fun q h => Or.inr h
  have hS : va_S (va_A (wM cs ad 0) s.heap.size) s.heap s.heap [] := va_S.rf
  have hl := lv_entry ([.ref (ad 0), .int vr, .int vn]) (n := 4) (Nat.le_of_ble_eq_true rfl)
  rw [lg_entry_eq]
  generalize (lg_sl ([.ref (ad 0), .int vr, .int vn]) ++ List.replicate (4 - (lg_sl ([.ref (ad 0), .int vr, .int vn])).length) Slot.unset).toArray = ls at hl ⊢
  have hl : lv_has ls 4 [(0, .ref (ad 0)), (1, .int vr), (2, .int vn)] := hl
  refine lv_iload_n hx hb dX12_row_0 rfl (lv_at hl 1 rfl) ?_
  refine cr_i (va_runS (As := [.int vr]) (rest := []) ⟨hx, hb, hml, hown, hts⟩ (cm_isRow l dC dI (tyM cs) s.heap vr) (va_cwS 1 hts gX12_row_X12_isRow rfl rfl rfl (by decide +kernel) ⟨Nat.le_of_ble_eq_true rfl, Nat.le_of_ble_eq_true rfl⟩) ⟨pb_c, pb_m hK⟩ rfl rfl hl.1 rfl (lv_room (Nat.le_of_ble_eq_true rfl)) dX12_row_1 ⟨Nat.zero_le _, Nat.zero_le _⟩) hS (fun r_1 hw_1 locs hS => ?_)
  obtain ⟨c_1, rfl⟩ | ⟨c_1, rfl⟩ := ic_of hw_1
  · have c_1 : 0 ≤ vr.toInt ∧ vr.toInt < 6 := c_1
    refine lv_if_eq (tgt := 13) hx hb dX12_row_4 (by decide) (fun c => absurd c (by decide)) (fun _ => ?_)
    refine lv_iload_n hx hb dX12_row_7 rfl (lv_at hl 2 rfl) ?_
    refine lv_bipush (v := 40) hx hb dX12_row_8 (by decide) ?_
    refine lv_icmp_le (tgt := 15) hx hb dX12_row_10 (by decide) (fun c_2 => ?_) (fun c_2 => ?_)
    · have c_2 : vn.toInt ≤ 40 := il_le c_2
      refine lv_iload_n hx hb dX12_row_15 rfl (lv_at hl 2 rfl) ?_
      refine lv_if_ge (tgt := 25) hx hb dX12_row_16 (by decide) (fun c_3 => ?_) (fun c_3 => ?_)
      · have c_3 : 0 ≤ vn.toInt := il_le c_3
        refine lv_aload_n hx hb dX12_row_25 rfl (lv_at hl 0 rfl) ?_
        refine va_get (D := (dC, dI)) (ci := 12) (v := .ref (ad 2)) (C := RX12) (T := TX12) (N := 46) hx hb hts (by decide +kernel) hown hK hP 0 rfl rfl 3 (by decide) (hts (.fieldLink RX12 13 "DearLettersModel" "sizes" "[I") (by decide +kernel)) (fun _ h9 => h9) rfl dX12_row_26 ?_
        refine lv_iload_n hx hb dX12_row_29 rfl (lv_at hl 1 rfl) ?_
        refine lv_iload_n hx hb dX12_row_30 rfl (lv_at hl 2 rfl) ?_
        refine va_iast hx hb hK hP hD hS 2 1 rfl rfl (show vp_in vr 6 from vi_of (by omega) (by omega)) dX12_row_31 (fun H locs hP hD hS => ?_)
        have hP := hP.sub (ws' := [wMobj ad 0 0 0 0, (ad 3, .inl (cs 3, 240, .inl (fun _ => 0)))]) [0, 3] rfl
        have hD := hD.sub (ws' := [wMobj ad 0 0 0 0, (ad 3, .inl (cs 3, 240, .inl (fun _ => 0)))]) [0, 3] (by decide) rfl
        have hK1 : va_K (dC, dI) vwCl [(cs 3, .int)] s := hK.sub [2] rfl
        have loop : ∀ (k i : Nat) (g : Nat → Int32) (H : Heap) (locs : List Loc) (ls : Array Slot), i + k = 40 → va_P (dC, dI) vwCl [wMobj ad 0 0 0 0, (ad 3, .inl (cs 3, 240, .inl g))] H → va_D (va_A (wM cs ad 0) s.heap.size) [wMobj ad 0 0 0 0, (ad 3, .inl (cs 3, 240, .inl g))] → va_S (va_A (wM cs ad 0) s.heap.size) s.heap H locs → lv_has ls 4 [(3, .int (nI i)), (0, .ref (ad 0)), (1, .int vr), (2, .int vn)] → W p l e (headSpec wsX12_row ({ frames := 2, cells := 0, slots := 0, locals := 42 })).room s m ([.ref (ad 0), .int vr, .int vn] : List Value).toArray below meth c H locs 0 0 (MQ below (va_Qi (fun (z : Int32) (_ : Unit) => z = sf_row vr vn) (fun _ _ => True) (va_A (wM cs ad 0) s.heap.size)) ([.ref (ad 0), .int vr, .int vn] : List Value).toArray s 0 0 (va_A (wM cs ad 0) s.heap.size)) (F0 m 34 ls []) := by
          intro k
          induction k with
          | zero =>
            intro i g H locs ls hi hP hD hS hl
            refine lv_iload_n hx hb dX12_row_34 rfl (lv_at hl 0 rfl) ?_
            refine lv_bipush (v := 40) hx hb dX12_row_35 (by decide) ?_
            refine lv_icmp_ge (tgt := 53) hx hb dX12_row_37 (by decide) (fun _ => ?_) (fun c => absurd (by rw [show i = 40 by omega]; decide) c)
            refine lv_iload_n hx hb dX12_row_53 rfl (lv_at hl 3 rfl) ?_
            exact W.iret (v := vn) hx hb hr (fun t ht hW => ⟨⟨vn, (), rfl, (by unfold sf_row; (split <;> first | rfl | (exfalso; omega) | (split <;> first | rfl | (exfalso; omega) | (split <;> first | rfl | (exfalso; omega))))), trivial⟩, hS.F ht⟩) hS.2.2 dX12_row_54
          | succ k ih =>
            intro i g H locs ls hi hP hD hS hl
            have hlt : i < 40 := by omega
            refine lv_iload_n hx hb dX12_row_34 rfl (lv_at hl 0 rfl) ?_
            refine lv_bipush (v := 40) hx hb dX12_row_35 (by decide) ?_
            refine lv_icmp_ge (tgt := 53) hx hb dX12_row_37 (by decide) (fun c => absurd c (show ¬ (40 : Int32) ≤ nI i from nI_ge hlt (by decide))) (fun _ => ?_)
            refine lv_aload_n hx hb dX12_row_40 rfl (lv_at hl 1 rfl) ?_
            refine lv_iload_n hx hb dX12_row_41 rfl (lv_at hl 2 rfl) ?_
            refine lv_iload_n hx hb dX12_row_42 rfl (lv_at hl 0 rfl) ?_
            refine lv_iconst (v := 0) hx hb dX12_row_43 (by decide) ?_
            have hFc := va_free (wc := [wMobj ad 0 0 0 0, (ad 3, .inl (cs 3, 240, .inl g))]) hD hS hA [0, 1] rfl
            refine va_callv (va_runV (As := [.int vr, .int (nI i), .int 0]) (rest := []) ⟨hx, hb, hml, hown, hts⟩ (cm_setRow l dC dI cs ad H g vr (nI i) 0 (show vp_in vr 6 from vi_of (by omega) (by omega)) (vp_in_nI hlt (by decide)) hP (hD.weaken (fun _ _ _ _ => trivial))) (cwV 3 hts gX12_row_X12_setRow rfl rfl rfl (by decide +kernel) ⟨Nat.le_of_ble_eq_true rfl, Nat.le_of_ble_eq_true rfl⟩) ⟨pb_c, va_recv hK1 hP (ci := 12) (q0 := 0) rfl rfl, pb_m hK1⟩ rfl rfl hl.1 rfl (lv_room (Nat.le_of_ble_eq_true rfl)) dX12_row_44 ⟨Nat.zero_le _, Nat.zero_le _⟩) hS (fun q _ h => hFc q h) hFc (fun g1 t H1 locs ht hvm hw hB hz1 hk1 hS => ?_)
            have hB : va_P (dC, dI) vwCl [wMobj ad 0 0 0 0, (ad 3, .inl (cs 3, 240, .inl g1))] H1 := by rw [← ht]; exact hB
            have hD : va_D (va_A (wM cs ad 0) s.heap.size) [wMobj ad 0 0 0 0, (ad 3, .inl (cs 3, 240, .inl g1))] := hD.set (p := 1) rfl
            refine lv_iinc (v := nI (i + 1)) (lv' := [(3, .int (nI (i + 1))), (0, .ref (ad 0)), (1, .int vr), (2, .int vn)]) hx hb dX12_row_47 hl (k := 0) rfl (nI_1 i) (by decide) rfl (fun ls hl => ?_)
            refine lv_goto (tgt := 34) hx hb dX12_row_50 (by decide) ?_
            exact ih (i + 1) g1 H1 locs ls (by omega) hB hD hS hl
        refine lv_iconst (v := 0) hx hb dX12_row_32 (by decide) ?_
        refine lv_istore_n (lv' := [(3, .int 0), (0, .ref (ad 0)), (1, .int vr), (2, .int vn)]) hx hb dX12_row_33 rfl hl (by decide) rfl (fun ls hl => ?_)
        exact loop 40 0 _ _ _ ls (by omega) hP hD hS hl
      · have c_3 : vn.toInt < 0 := il_nle c_3
        refine lv_aload_n hx hb dX12_row_19 rfl (lv_at hl 0 rfl) ?_
        refine lv_iconst (v := 5) hx hb dX12_row_20 (by decide) ?_
        refine va_calli (va_runV (As := [.int 5]) (rest := []) ⟨hx, hb, hml, hown, hts⟩ (cm_meet l dC dI cs ad s.heap hP hD0 5 (show vp_in 5 6 by unfold vp_in; decide)) (cwV 1 hts gX12_row_X12_meet rfl rfl rfl (by decide +kernel) ⟨Nat.le_of_ble_eq_true rfl, Nat.le_of_ble_eq_true rfl⟩) ⟨pb_c, va_recv hK hP (ci := 12) (q0 := 0) rfl rfl, pb_m hK⟩ rfl rfl hl.1 rfl (lv_room (Nat.le_of_ble_eq_true rfl)) dX12_row_21 ⟨Nat.zero_le _, Nat.zero_le _⟩) hS (fun q _ h => h) (fun q h => h) (fun r_4 u t H1 locs ht hvm hw_4 hB hz1 hk1 hS => ?_)
        obtain rfl : r_4 = (-3) := hw_4
        exact W.iret (v := (-3)) hx hb hr (fun t ht hW => ⟨⟨(-3), (), rfl, (by unfold sf_row; (split <;> first | rfl | (exfalso; omega) | (split <;> first | rfl | (exfalso; omega) | (split <;> first | rfl | (exfalso; omega))))), trivial⟩, hS.F ht⟩) hS.2.2 dX12_row_24
    · have c_2 : 40 < vn.toInt := il_nle c_2
      refine lv_iconst (v := (-1)) hx hb dX12_row_13 (by decide) ?_
      exact W.iret (v := (-1)) hx hb hr (fun t ht hW => ⟨⟨(-1), (), rfl, (by unfold sf_row; (split <;> first | rfl | (exfalso; omega) | (split <;> first | rfl | (exfalso; omega) | (split <;> first | rfl | (exfalso; omega))))), trivial⟩, hS.F ht⟩) hS.2.2 dX12_row_14
  · have c_1 : ¬ (0 ≤ vr.toInt ∧ vr.toInt < 6) := c_1
    refine lv_if_eq (tgt := 13) hx hb dX12_row_4 (by decide) (fun _ => ?_) (fun c => absurd (by decide) c)
    refine lv_iconst (v := (-1)) hx hb dX12_row_13 (by decide) ?_
    exact W.iret (v := (-1)) hx hb hr (fun t ht hW => ⟨⟨(-1), (), rfl, (by unfold sf_row; (split <;> first | rfl | (exfalso; omega) | (split <;> first | rfl | (exfalso; omega) | (split <;> first | rfl | (exfalso; omega))))), trivial⟩, hS.F ht⟩) hS.2.2 dX12_row_14
theorem dX12_text_0 : decode cX12_text 0 = .ok (.iload_n 1, 1) := by decide +kernel
theorem dX12_text_1 : decode cX12_text 1 = .ok (.invokestatic 89, 3) := by decide +kernel
theorem dX12_text_4 : decode cX12_text 4 = .ok (.ifCond .eq 9, 3) := by decide +kernel
theorem dX12_text_7 : decode cX12_text 7 = .ok (.iload_n 2, 1) := by decide +kernel
theorem dX12_text_8 : decode cX12_text 8 = .ok (.bipush 80, 2) := by decide +kernel
theorem dX12_text_10 : decode cX12_text 10 = .ok (.if_icmp .le 5, 3) := by decide +kernel
theorem dX12_text_15 : decode cX12_text 15 = .ok (.iload_n 2, 1) := by decide +kernel
theorem dX12_text_16 : decode cX12_text 16 = .ok (.ifCond .ge 9, 3) := by decide +kernel
theorem dX12_text_25 : decode cX12_text 25 = .ok (.aload_n 0, 1) := by decide +kernel
theorem dX12_text_26 : decode cX12_text 26 = .ok (.getfield 22, 3) := by decide +kernel
theorem dX12_text_29 : decode cX12_text 29 = .ok (.iload_n 1, 1) := by decide +kernel
theorem dX12_text_30 : decode cX12_text 30 = .ok (.iload_n 2, 1) := by decide +kernel
theorem dX12_text_31 : decode cX12_text 31 = .ok (.iastore, 1) := by decide +kernel
theorem dX12_text_34 : decode cX12_text 34 = .ok (.iload_n 3, 1) := by decide +kernel
theorem dX12_text_35 : decode cX12_text 35 = .ok (.bipush 80, 2) := by decide +kernel
theorem dX12_text_37 : decode cX12_text 37 = .ok (.if_icmp .ge 22, 3) := by decide +kernel
theorem dX12_text_59 : decode cX12_text 59 = .ok (.iload_n 2, 1) := by decide +kernel
theorem dX12_text_60 : decode cX12_text 60 = .ok (.ireturn, 1) := by decide +kernel
theorem dX12_text_40 : decode cX12_text 40 = .ok (.aload_n 0, 1) := by decide +kernel
theorem dX12_text_41 : decode cX12_text 41 = .ok (.getfield 25, 3) := by decide +kernel
theorem dX12_text_44 : decode cX12_text 44 = .ok (.bipush 80, 2) := by decide +kernel
theorem dX12_text_46 : decode cX12_text 46 = .ok (.iload_n 1, 1) := by decide +kernel
theorem dX12_text_47 : decode cX12_text 47 = .ok (.imul, 1) := by decide +kernel
theorem dX12_text_48 : decode cX12_text 48 = .ok (.iload_n 3, 1) := by decide +kernel
theorem dX12_text_49 : decode cX12_text 49 = .ok (.iadd, 1) := by decide +kernel
theorem dX12_text_50 : decode cX12_text 50 = .ok (.bipush 32, 2) := by decide +kernel
theorem dX12_text_52 : decode cX12_text 52 = .ok (.iastore, 1) := by decide +kernel
theorem dX12_text_53 : decode cX12_text 53 = .ok (.iinc 3 1, 3) := by decide +kernel
theorem dX12_text_56 : decode cX12_text 56 = .ok (.goto (-22), 3) := by decide +kernel
theorem dX12_text_32 : decode cX12_text 32 = .ok (.iconst 0, 1) := by decide +kernel
theorem dX12_text_33 : decode cX12_text 33 = .ok (.istore_n 3, 1) := by decide +kernel
theorem dX12_text_19 : decode cX12_text 19 = .ok (.aload_n 0, 1) := by decide +kernel
theorem dX12_text_20 : decode cX12_text 20 = .ok (.iconst 5, 1) := by decide +kernel
theorem dX12_text_21 : decode cX12_text 21 = .ok (.invokevirtual 85, 3) := by decide +kernel
theorem dX12_text_24 : decode cX12_text 24 = .ok (.ireturn, 1) := by decide +kernel
theorem dX12_text_13 : decode cX12_text 13 = .ok (.iconst (-1), 1) := by decide +kernel
theorem dX12_text_14 : decode cX12_text 14 = .ok (.ireturn, 1) := by decide +kernel
set_option maxRecDepth 20000 in
theorem ggX12_text_X12_isText : GoodIn wsX12_text wsX12_isText := goodIn_r _ [6, 7, 8, 5, 9] (by decide +kernel) (by decide +kernel)
set_option maxRecDepth 20000 in
theorem gX12_text_X12_isText : GoodIn wsX12_text (va_wsS RX12 89 yX12_isText wsX12_isText) := goodIn_app (goodIn_of _ (by decide +kernel)) ggX12_text_X12_isText
set_option maxRecDepth 20000 in
theorem ggX12_text_X12_meet : GoodIn wsX12_text wsX12_meet := goodIn_r _ [13, 14, 15, 16, 17, 18, 19, 20, 21, 22, 23, 24, 25, 26, 27, 28, 29, 30, 31, 32, 33, 34, 35, 36, 37, 38, 39, 40, 41, 42, 43, 44, 45, 46, 47, 48, 49, 50, 51, 52, 53, 54, 55, 56, 57, 58, 59, 60, 61] (by decide +kernel) (by decide +kernel)
set_option maxRecDepth 20000 in
theorem gX12_text_X12_meet : GoodIn wsX12_text (wsV RX12 85 RX12 yX12_meet wsX12_meet) := goodIn_app (goodIn_of _ (by decide +kernel)) ggX12_text_X12_meet
set_option maxHeartbeats 4000000 in
set_option maxRecDepth 100000 in
/-- text -/
theorem pm_text (l : Launch) (dC : Nat → ClassId) (dI : Nat → Nat → Nat) (cs : Nat → ClassId) (ad : Nat → Nat) (H : Heap) (hP : va_P (dC, dI) vwCl (wM cs ad 0) H) (hD0 : va_D (fun _ => True) (wM cs ad 0)) (vt : Int32) (vn : Int32) : Met l yX12_text wsX12_text ({ frames := 2, cells := 0, slots := 0, locals := 42 }) (va_Pc [.ref (ad 0), .int vt, .int vn] (pb_P (dC, dI) vwCl (tyM cs) H)) (va_Qi (fun (z : Int32) (_ : Unit) => z = sf_text vt vn) (fun _ _ => True) (va_A (wM cs ad 0) H.size)) 0 0 (va_A (wM cs ad 0) H.size) := by
  refine Met.ofW (cc := cX12_text) (maxL := 4) (ret := (some .int)) (by decide) rfl ?_
  intro p e s m args below meth c s₁ B hml hv
  obtain ⟨rfl, hh, hK⟩ := hv
  have hx := B.exec
  have hb := B.bytes
  have hr := B.returns
  have hts := atoms_spec (ws := wsX12_text) B.pre
  have hown : s.vm.findClass RX12 = some m.cls := findClass_of_methodNamed B.named
  have hlocks := B.notSynchronized
  subst hh
  have hD := hD0.self (sz := s.heap.size)
  have hA : ∀ q : Nat, s.heap.size ≤ q → va_A (wM cs ad 0) s.heap.size q := fun q h => Or.inr h
  have hS : va_S (va_A (wM cs ad 0) s.heap.size) s.heap s.heap [] := va_S.rf
  have hl := lv_entry ([.ref (ad 0), .int vt, .int vn]) (n := 4) (Nat.le_of_ble_eq_true rfl)
  rw [lg_entry_eq]
  generalize (lg_sl ([.ref (ad 0), .int vt, .int vn]) ++ List.replicate (4 - (lg_sl ([.ref (ad 0), .int vt, .int vn])).length) Slot.unset).toArray = ls at hl ⊢
  have hl : lv_has ls 4 [(0, .ref (ad 0)), (1, .int vt), (2, .int vn)] := hl
  refine lv_iload_n hx hb dX12_text_0 rfl (lv_at hl 1 rfl) ?_
  refine cr_i (va_runS (As := [.int vt]) (rest := []) ⟨hx, hb, hml, hown, hts⟩ (cm_isText l dC dI (tyM cs) s.heap vt) (va_cwS 1 hts gX12_text_X12_isText rfl rfl rfl (by decide +kernel) ⟨Nat.le_of_ble_eq_true rfl, Nat.le_of_ble_eq_true rfl⟩) ⟨pb_c, pb_m hK⟩ rfl rfl hl.1 rfl (lv_room (Nat.le_of_ble_eq_true rfl)) dX12_text_1 ⟨Nat.zero_le _, Nat.zero_le _⟩) hS (fun r_1 hw_1 locs hS => ?_)
  obtain ⟨c_1, rfl⟩ | ⟨c_1, rfl⟩ := ic_of hw_1
  · have c_1 : 0 ≤ vt.toInt ∧ vt.toInt < 4 := c_1
    refine lv_if_eq (tgt := 13) hx hb dX12_text_4 (by decide) (fun c => absurd c (by decide)) (fun _ => ?_)
    refine lv_iload_n hx hb dX12_text_7 rfl (lv_at hl 2 rfl) ?_
    refine lv_bipush (v := 80) hx hb dX12_text_8 (by decide) ?_
    refine lv_icmp_le (tgt := 15) hx hb dX12_text_10 (by decide) (fun c_2 => ?_) (fun c_2 => ?_)
    · have c_2 : vn.toInt ≤ 80 := il_le c_2
      refine lv_iload_n hx hb dX12_text_15 rfl (lv_at hl 2 rfl) ?_
      refine lv_if_ge (tgt := 25) hx hb dX12_text_16 (by decide) (fun c_3 => ?_) (fun c_3 => ?_)
      · have c_3 : 0 ≤ vn.toInt := il_le c_3
        refine lv_aload_n hx hb dX12_text_25 rfl (lv_at hl 0 rfl) ?_
        refine va_get (D := (dC, dI)) (ci := 12) (v := .ref (ad 4)) (C := RX12) (T := TX12) (N := 46) hx hb hts (by decide +kernel) hown hK hP 0 rfl rfl 6 (by decide) (hts (.fieldLink RX12 22 "DearLettersModel" "lengths" "[I") (by decide +kernel)) (fun _ h9 => h9) rfl dX12_text_26 ?_
        refine lv_iload_n hx hb dX12_text_29 rfl (lv_at hl 1 rfl) ?_
        refine lv_iload_n hx hb dX12_text_30 rfl (lv_at hl 2 rfl) ?_
        refine va_iast hx hb hK hP hD hS 4 3 rfl rfl (show vp_in vt 4 from vi_of (by omega) (by omega)) dX12_text_31 (fun H locs hP hD hS => ?_)
        have hP := hP.sub (ws' := [wMobj ad 0 0 0 0, (ad 5, .inl (cs 5, 320, .inl (fun _ => 0)))]) [0, 5] rfl
        have hD := hD.sub (ws' := [wMobj ad 0 0 0 0, (ad 5, .inl (cs 5, 320, .inl (fun _ => 0)))]) [0, 5] (by decide) rfl
        have hK1 : va_K (dC, dI) vwCl [(cs 5, .int)] s := hK.sub [4] rfl
        have loop : ∀ (k i : Nat) (g : Nat → Int32) (H : Heap) (locs : List Loc) (ls : Array Slot), i + k = 80 → va_P (dC, dI) vwCl [wMobj ad 0 0 0 0, (ad 5, .inl (cs 5, 320, .inl g))] H → va_D (va_A (wM cs ad 0) s.heap.size) [wMobj ad 0 0 0 0, (ad 5, .inl (cs 5, 320, .inl g))] → va_S (va_A (wM cs ad 0) s.heap.size) s.heap H locs → lv_has ls 4 [(3, .int (nI i)), (0, .ref (ad 0)), (1, .int vt), (2, .int vn)] → W p l e (headSpec wsX12_text ({ frames := 2, cells := 0, slots := 0, locals := 42 })).room s m ([.ref (ad 0), .int vt, .int vn] : List Value).toArray below meth c H locs 0 0 (MQ below (va_Qi (fun (z : Int32) (_ : Unit) => z = sf_text vt vn) (fun _ _ => True) (va_A (wM cs ad 0) s.heap.size)) ([.ref (ad 0), .int vt, .int vn] : List Value).toArray s 0 0 (va_A (wM cs ad 0) s.heap.size)) (F0 m 34 ls []) := by
          intro k
          induction k with
          | zero =>
            intro i g H locs ls hi hP hD hS hl
            refine lv_iload_n hx hb dX12_text_34 rfl (lv_at hl 0 rfl) ?_
            refine lv_bipush (v := 80) hx hb dX12_text_35 (by decide) ?_
            refine lv_icmp_ge (tgt := 59) hx hb dX12_text_37 (by decide) (fun _ => ?_) (fun c => absurd (by rw [show i = 80 by omega]; decide) c)
            refine lv_iload_n hx hb dX12_text_59 rfl (lv_at hl 3 rfl) ?_
            exact W.iret (v := vn) hx hb hr (fun t ht hW => ⟨⟨vn, (), rfl, (by unfold sf_text; (split <;> first | rfl | (exfalso; omega) | (split <;> first | rfl | (exfalso; omega) | (split <;> first | rfl | (exfalso; omega))))), trivial⟩, hS.F ht⟩) hS.2.2 dX12_text_60
          | succ k ih =>
            intro i g H locs ls hi hP hD hS hl
            have hlt : i < 80 := by omega
            refine lv_iload_n hx hb dX12_text_34 rfl (lv_at hl 0 rfl) ?_
            refine lv_bipush (v := 80) hx hb dX12_text_35 (by decide) ?_
            refine lv_icmp_ge (tgt := 59) hx hb dX12_text_37 (by decide) (fun c => absurd c (show ¬ (80 : Int32) ≤ nI i from nI_ge hlt (by decide))) (fun _ => ?_)
            refine lv_aload_n hx hb dX12_text_40 rfl (lv_at hl 1 rfl) ?_
            refine va_get (D := (dC, dI)) (ci := 12) (v := .ref (ad 5)) (C := RX12) (T := TX12) (N := 46) hx hb hts (by decide +kernel) hown hK hP 0 rfl rfl 7 (by decide) (hts (.fieldLink RX12 25 "DearLettersModel" "texts" "[I") (by decide +kernel)) (fun _ h9 => h9) rfl dX12_text_41 ?_
            refine lv_bipush (v := 80) hx hb dX12_text_44 (by decide) ?_
            refine lv_iload_n hx hb dX12_text_46 rfl (lv_at hl 2 rfl) ?_
            refine lv_imul hx hb dX12_text_47 ?_
            refine lv_iload_n hx hb dX12_text_48 rfl (lv_at hl 0 rfl) ?_
            refine lv_iadd hx hb dX12_text_49 ?_
            refine lv_bipush (v := 32) hx hb dX12_text_50 (by decide) ?_
            refine va_iast hx hb hK1 hP hD hS 1 0 rfl rfl (lx_ixT (show vp_in vt 4 from vi_of (by omega) (by omega)) (vp_in_nI hlt (by decide))) dX12_text_52 (fun H locs hP hD hS => ?_)
            refine lv_iinc (v := nI (i + 1)) (lv' := [(3, .int (nI (i + 1))), (0, .ref (ad 0)), (1, .int vt), (2, .int vn)]) hx hb dX12_text_53 hl (k := 0) rfl (nI_1 i) (by decide) rfl (fun ls hl => ?_)
            refine lv_goto (tgt := 34) hx hb dX12_text_56 (by decide) ?_
            exact ih (i + 1) _ H locs ls (by omega) hP hD hS hl
        refine lv_iconst (v := 0) hx hb dX12_text_32 (by decide) ?_
        refine lv_istore_n (lv' := [(3, .int 0), (0, .ref (ad 0)), (1, .int vt), (2, .int vn)]) hx hb dX12_text_33 rfl hl (by decide) rfl (fun ls hl => ?_)
        exact loop 80 0 _ _ _ ls (by omega) hP hD hS hl
      · have c_3 : vn.toInt < 0 := il_nle c_3
        refine lv_aload_n hx hb dX12_text_19 rfl (lv_at hl 0 rfl) ?_
        refine lv_iconst (v := 5) hx hb dX12_text_20 (by decide) ?_
        refine va_calli (va_runV (As := [.int 5]) (rest := []) ⟨hx, hb, hml, hown, hts⟩ (cm_meet l dC dI cs ad s.heap hP hD0 5 (show vp_in 5 6 by unfold vp_in; decide)) (cwV 1 hts gX12_text_X12_meet rfl rfl rfl (by decide +kernel) ⟨Nat.le_of_ble_eq_true rfl, Nat.le_of_ble_eq_true rfl⟩) ⟨pb_c, va_recv hK hP (ci := 12) (q0 := 0) rfl rfl, pb_m hK⟩ rfl rfl hl.1 rfl (lv_room (Nat.le_of_ble_eq_true rfl)) dX12_text_21 ⟨Nat.zero_le _, Nat.zero_le _⟩) hS (fun q _ h => h) (fun q h => h) (fun r_4 u t H1 locs ht hvm hw_4 hB hz1 hk1 hS => ?_)
        obtain rfl : r_4 = (-3) := hw_4
        exact W.iret (v := (-3)) hx hb hr (fun t ht hW => ⟨⟨(-3), (), rfl, (by unfold sf_text; (split <;> first | rfl | (exfalso; omega) | (split <;> first | rfl | (exfalso; omega) | (split <;> first | rfl | (exfalso; omega))))), trivial⟩, hS.F ht⟩) hS.2.2 dX12_text_24
    · have c_2 : 80 < vn.toInt := il_nle c_2
      refine lv_iconst (v := (-1)) hx hb dX12_text_13 (by decide) ?_
      exact W.iret (v := (-1)) hx hb hr (fun t ht hW => ⟨⟨(-1), (), rfl, (by unfold sf_text; (split <;> first | rfl | (exfalso; omega) | (split <;> first | rfl | (exfalso; omega) | (split <;> first | rfl | (exfalso; omega))))), trivial⟩, hS.F ht⟩) hS.2.2 dX12_text_14
  · have c_1 : ¬ (0 ≤ vt.toInt ∧ vt.toInt < 4) := c_1
    refine lv_if_eq (tgt := 13) hx hb dX12_text_4 (by decide) (fun _ => ?_) (fun c => absurd (by decide) c)
    refine lv_iconst (v := (-1)) hx hb dX12_text_13 (by decide) ?_
    exact W.iret (v := (-1)) hx hb hr (fun t ht hW => ⟨⟨(-1), (), rfl, (by unfold sf_text; (split <;> first | rfl | (exfalso; omega) | (split <;> first | rfl | (exfalso; omega) | (split <;> first | rfl | (exfalso; omega))))), trivial⟩, hS.F ht⟩) hS.2.2 dX12_text_14
theorem dX12_mix_0 : decode cX12_mix 0 = .ok (.aload_n 0, 1) := by decide +kernel
theorem dX12_mix_1 : decode cX12_mix 1 = .ok (.ldc2_w 312, 3) := by decide +kernel
theorem dX12_mix_4 : decode cX12_mix 4 = .ok (.aload_n 0, 1) := by decide +kernel
theorem dX12_mix_5 : decode cX12_mix 5 = .ok (.getfield 314, 3) := by decide +kernel
theorem dX12_mix_8 : decode cX12_mix 8 = .ok (.lmul, 1) := by decide +kernel
theorem dX12_mix_9 : decode cX12_mix 9 = .ok (.iload_n 1, 1) := by decide +kernel
theorem dX12_mix_10 : decode cX12_mix 10 = .ok (.i2l, 1) := by decide +kernel
theorem dX12_mix_11 : decode cX12_mix 11 = .ok (.ladd, 1) := by decide +kernel
theorem dX12_mix_12 : decode cX12_mix 12 = .ok (.putfield 314, 3) := by decide +kernel
theorem dX12_mix_15 : decode cX12_mix 15 = .ok (.return_, 1) := by decide +kernel
set_option maxHeartbeats 4000000 in
set_option maxRecDepth 100000 in
/-- mix(v): the one number -/
theorem cm_mix (l : Launch) (dC : Nat → ClassId) (dI : Nat → Nat → Nat) (cs : Nat → ClassId) (ad : Nat → Nat) (h : Int64) (H : Heap) (hP : va_P (dC, dI) vwCl (wM cs ad h) H) (hD0 : va_D (fun _ => True) (wM cs ad h)) (vv : Int32) (h2 : Int64) (e2 : 31 * h + vv.toInt64 = h2) : Met l yX12_mix wsX12_mix ({ frames := 0, cells := 0, slots := 0, locals := 0 }) (va_Pc [.ref (ad 0), .int vv] (pb_P (dC, dI) vwCl (tyM cs) H)) (va_Qv (fun (_ : Unit) => True) (fun _ t => va_P (dC, dI) vwCl (wM cs ad h2) t.heap) (va_A (wM cs ad h) H.size)) 0 0 (va_A (wM cs ad h) H.size) := by
  refine Met.ofW (cc := cX12_mix) (maxL := 2) (ret := none) (by decide) rfl ?_
  intro p e s m args below meth c s₁ B hml hv
  obtain ⟨rfl, hh, hK⟩ := hv
  have hx := B.exec
  have hb := B.bytes
  have hr := B.returns
  have hts := atoms_spec (ws := wsX12_mix) B.pre
  have hown : s.vm.findClass RX12 = some m.cls := findClass_of_methodNamed B.named
  have hlocks := B.notSynchronized
  subst hh
  have hD := hD0.self (sz := s.heap.size)
  have hA : ∀ q : Nat, s.heap.size ≤ q → va_A (wM cs ad h) s.heap.size q := fun q h => Or.inr h
  have hS : va_S (va_A (wM cs ad h) s.heap.size) s.heap s.heap [] := va_S.rf
  have hl := lv_entry ([.ref (ad 0), .int vv]) (n := 2) (Nat.le_of_ble_eq_true rfl)
  rw [lg_entry_eq]
  generalize (lg_sl ([.ref (ad 0), .int vv]) ++ List.replicate (2 - (lg_sl ([.ref (ad 0), .int vv])).length) Slot.unset).toArray = ls at hl ⊢
  have hl : lv_has ls 2 [(0, .ref (ad 0)), (1, .int vv)] := hl
  refine lv_aload_n hx hb dX12_mix_0 rfl (lv_at hl 0 rfl) ?_
  refine lv_ldc2 (v := 31) hx hb hown (hts (.constantLong RX12 312 31) (by decide +kernel)) dX12_mix_1 ?_
  refine lv_aload_n hx hb dX12_mix_4 rfl (lv_at hl 0 rfl) ?_
  refine va_get (D := (dC, dI)) (ci := 12) (v := .long h) (C := RX12) (T := TX12) (N := 46) hx hb hts (by decide +kernel) hown hK hP 0 rfl rfl 45 (by decide) (hts (.fieldLink RX12 314 "DearLettersModel" "h0" "J") (by decide +kernel)) (fun _ h9 => h9) rfl dX12_mix_5 ?_
  refine lv_lmul hx hb dX12_mix_8 ?_
  refine lv_iload_n hx hb dX12_mix_9 rfl (lv_at hl 1 rfl) ?_
  refine lv_i2l (v := vv.toInt64) hx hb dX12_mix_10 rfl ?_
  refine lv_ladd hx hb dX12_mix_11 ?_
  refine lq_l h2 e2 ?_
  refine va_put (D := (dC, dI)) (ci := 12) (v := .long h2) (ty := .long) (C := RX12) (T := TX12) (N := 46) hx hb hts (by decide +kernel) tyX12 tyX12_ok nmX12 hown hK hP hD hS 0 rfl rfl 45 (by decide) (hts (.fieldLink RX12 314 "DearLettersModel" "h0" "J") (by decide +kernel)) (fun _ h9 => h9) rfl (by decide +kernel) rfl rfl (Nat.le_of_ble_eq_true rfl) dX12_mix_12 (fun H locs hP hD hS => ?_)
  exact W.vret hx hb hr (fun t ht hW => ⟨⟨(), rfl, trivial, by subst ht; exact hP⟩, hS.F ht⟩) hS.2.2 dX12_mix_15
theorem dX12_mixTown_0 : decode cX12_mixTown 0 = .ok (.iconst 0, 1) := by decide +kernel
theorem dX12_mixTown_1 : decode cX12_mixTown 1 = .ok (.istore_n 1, 1) := by decide +kernel
theorem dX12_mixTown_2 : decode cX12_mixTown 2 = .ok (.iload_n 1, 1) := by decide +kernel
theorem dX12_mixTown_3 : decode cX12_mixTown 3 = .ok (.aload_n 0, 1) := by decide +kernel
theorem dX12_mixTown_4 : decode cX12_mixTown 4 = .ok (.getfield 136, 3) := by decide +kernel
theorem dX12_mixTown_7 : decode cX12_mixTown 7 = .ok (.if_icmp .ge 32, 3) := by decide +kernel
theorem dX12_mixTown_39 : decode cX12_mixTown 39 = .ok (.iconst 0, 1) := by decide +kernel
theorem dX12_mixTown_40 : decode cX12_mixTown 40 = .ok (.istore_n 1, 1) := by decide +kernel
theorem dX12_mixTown_41 : decode cX12_mixTown 41 = .ok (.iload_n 1, 1) := by decide +kernel
theorem dX12_mixTown_42 : decode cX12_mixTown 42 = .ok (.aload_n 0, 1) := by decide +kernel
theorem dX12_mixTown_43 : decode cX12_mixTown 43 = .ok (.getfield 139, 3) := by decide +kernel
theorem dX12_mixTown_46 : decode cX12_mixTown 46 = .ok (.if_icmp .ge 47, 3) := by decide +kernel
theorem dX12_mixTown_93 : decode cX12_mixTown 93 = .ok (.iconst 0, 1) := by decide +kernel
theorem dX12_mixTown_94 : decode cX12_mixTown 94 = .ok (.istore_n 1, 1) := by decide +kernel
theorem dX12_mixTown_95 : decode cX12_mixTown 95 = .ok (.iload_n 1, 1) := by decide +kernel
theorem dX12_mixTown_96 : decode cX12_mixTown 96 = .ok (.aload_n 0, 1) := by decide +kernel
theorem dX12_mixTown_97 : decode cX12_mixTown 97 = .ok (.getfield 148, 3) := by decide +kernel
theorem dX12_mixTown_100 : decode cX12_mixTown 100 = .ok (.if_icmp .ge 53, 3) := by decide +kernel
theorem dX12_mixTown_153 : decode cX12_mixTown 153 = .ok (.iconst 0, 1) := by decide +kernel
theorem dX12_mixTown_154 : decode cX12_mixTown 154 = .ok (.istore_n 1, 1) := by decide +kernel
theorem dX12_mixTown_155 : decode cX12_mixTown 155 = .ok (.iload_n 1, 1) := by decide +kernel
theorem dX12_mixTown_156 : decode cX12_mixTown 156 = .ok (.iconst 3, 1) := by decide +kernel
theorem dX12_mixTown_157 : decode cX12_mixTown 157 = .ok (.if_icmp .ge 40, 3) := by decide +kernel
theorem dX12_mixTown_160 : decode cX12_mixTown 160 = .ok (.aload_n 0, 1) := by decide +kernel
theorem dX12_mixTown_161 : decode cX12_mixTown 161 = .ok (.aload_n 0, 1) := by decide +kernel
theorem dX12_mixTown_162 : decode cX12_mixTown 162 = .ok (.getfield 52, 3) := by decide +kernel
theorem dX12_mixTown_165 : decode cX12_mixTown 165 = .ok (.bipush 64, 2) := by decide +kernel
theorem dX12_mixTown_167 : decode cX12_mixTown 167 = .ok (.iload_n 1, 1) := by decide +kernel
theorem dX12_mixTown_168 : decode cX12_mixTown 168 = .ok (.imul, 1) := by decide +kernel
theorem dX12_mixTown_169 : decode cX12_mixTown 169 = .ok (.iaload, 1) := by decide +kernel
theorem dX12_mixTown_170 : decode cX12_mixTown 170 = .ok (.bipush (-9), 2) := by decide +kernel
theorem dX12_mixTown_172 : decode cX12_mixTown 172 = .ok (.if_icmp .ne 7, 3) := by decide +kernel
theorem dX12_mixTown_175 : decode cX12_mixTown 175 = .ok (.iconst (-1), 1) := by decide +kernel
theorem dX12_mixTown_176 : decode cX12_mixTown 176 = .ok (.goto 12, 3) := by decide +kernel
theorem dX12_mixTown_188 : decode cX12_mixTown 188 = .ok (.invokevirtual 318, 3) := by decide +kernel
theorem dX12_mixTown_191 : decode cX12_mixTown 191 = .ok (.iinc 1 1, 3) := by decide +kernel
theorem dX12_mixTown_194 : decode cX12_mixTown 194 = .ok (.goto (-39), 3) := by decide +kernel
theorem dX12_mixTown_197 : decode cX12_mixTown 197 = .ok (.return_, 1) := by decide +kernel
set_option maxRecDepth 20000 in
theorem ggX12_mixTown_X12_mix : GoodIn wsX12_mixTown wsX12_mix := goodIn_r _ [36, 37, 38, 48, 49, 50, 51, 52, 53, 54, 55, 56, 57, 58, 59, 60, 61, 62, 63, 64, 65, 66, 67, 68, 69, 70, 71, 72, 73, 74, 75, 76, 77, 78, 79, 80, 81, 82, 83, 84, 85, 86, 87, 88, 89, 90, 91, 92, 93] (by decide +kernel) (by decide +kernel)
set_option maxRecDepth 20000 in
theorem gX12_mixTown_X12_mix : GoodIn wsX12_mixTown (wsV RX12 318 RX12 yX12_mix wsX12_mix) := goodIn_app (goodIn_of _ (by decide +kernel)) ggX12_mixTown_X12_mix
set_option maxHeartbeats 4000000 in
set_option maxRecDepth 100000 in
/-- mixTown: three times -1, where no town is kept -/
theorem cm_mixTown (l : Launch) (dC : Nat → ClassId) (dI : Nat → Nat → Nat) (cs : Nat → ClassId) (ad : Nat → Nat) (H : Heap) (hP : va_P (dC, dI) vwCl (wM cs ad 449473576731407) H) (hD0 : va_D (fun _ => True) (wM cs ad 449473576731407)) : Met l yX12_mixTown wsX12_mixTown ({ frames := 1, cells := 0, slots := 0, locals := 21 }) (va_Pc [.ref (ad 0)] (pb_P (dC, dI) vwCl (tyM cs) H)) (va_Qv (fun (_ : Unit) => True) (fun _ t => va_P (dC, dI) vwCl (wM cs ad (-5056476749304206672)) t.heap) (va_A (wM cs ad 449473576731407) H.size)) 0 0 (va_A (wM cs ad 449473576731407) H.size) := by
  refine Met.ofW (cc := cX12_mixTown) (maxL := 3) (ret := none) (by decide) rfl ?_
  intro p e s m args below meth c s₁ B hml hv
  obtain ⟨rfl, hh, hK⟩ := hv
  have hx := B.exec
  have hb := B.bytes
  have hr := B.returns
  have hts := atoms_spec (ws := wsX12_mixTown) B.pre
  have hown : s.vm.findClass RX12 = some m.cls := findClass_of_methodNamed B.named
  have hlocks := B.notSynchronized
  subst hh
  have hD := hD0.self (sz := s.heap.size)
  have hA : ∀ q : Nat, s.heap.size ≤ q → va_A (wM cs ad 449473576731407) s.heap.size q := fun q h => Or.inr h
  have hS : va_S (va_A (wM cs ad 449473576731407) s.heap.size) s.heap s.heap [] := va_S.rf
  have hl := lv_entry ([.ref (ad 0)]) (n := 3) (Nat.le_of_ble_eq_true rfl)
  rw [lg_entry_eq]
  generalize (lg_sl ([.ref (ad 0)]) ++ List.replicate (3 - (lg_sl ([.ref (ad 0)])).length) Slot.unset).toArray = ls at hl ⊢
  have hl : lv_has ls 3 [(0, .ref (ad 0))] := hl
  refine lv_iconst (v := 0) hx hb dX12_mixTown_0 (by decide) ?_
  refine lv_istore_n (lv' := [(1, .int 0), (0, .ref (ad 0))]) hx hb dX12_mixTown_1 rfl hl (by decide) rfl (fun ls hl => ?_)
  refine lv_iload_n hx hb dX12_mixTown_2 rfl (lv_at hl 0 rfl) ?_
  refine lv_aload_n hx hb dX12_mixTown_3 rfl (lv_at hl 1 rfl) ?_
  refine va_get (D := (dC, dI)) (ci := 12) (v := .int 0) (C := RX12) (T := TX12) (N := 46) hx hb hts (by decide +kernel) hown hK hP 0 rfl rfl 8 (by decide) (hts (.fieldLink RX12 136 "DearLettersModel" "many" "I") (by decide +kernel)) (fun _ h9 => h9) rfl dX12_mixTown_4 ?_
  refine lv_icmp_ge (tgt := 39) hx hb dX12_mixTown_7 (by decide) (fun _ => ?_) (fun c => absurd (by decide) c)
  refine lv_iconst (v := 0) hx hb dX12_mixTown_39 (by decide) ?_
  refine lv_istore_n (lv' := [(1, .int 0), (0, .ref (ad 0))]) hx hb dX12_mixTown_40 rfl hl (by decide) rfl (fun ls hl => ?_)
  refine lv_iload_n hx hb dX12_mixTown_41 rfl (lv_at hl 0 rfl) ?_
  refine lv_aload_n hx hb dX12_mixTown_42 rfl (lv_at hl 1 rfl) ?_
  refine va_get (D := (dC, dI)) (ci := 12) (v := .int 0) (C := RX12) (T := TX12) (N := 46) hx hb hts (by decide +kernel) hown hK hP 0 rfl rfl 11 (by decide) (hts (.fieldLink RX12 139 "DearLettersModel" "pathMany" "I") (by decide +kernel)) (fun _ h9 => h9) rfl dX12_mixTown_43 ?_
  refine lv_icmp_ge (tgt := 93) hx hb dX12_mixTown_46 (by decide) (fun _ => ?_) (fun c => absurd (by decide) c)
  refine lv_iconst (v := 0) hx hb dX12_mixTown_93 (by decide) ?_
  refine lv_istore_n (lv' := [(1, .int 0), (0, .ref (ad 0))]) hx hb dX12_mixTown_94 rfl hl (by decide) rfl (fun ls hl => ?_)
  refine lv_iload_n hx hb dX12_mixTown_95 rfl (lv_at hl 0 rfl) ?_
  refine lv_aload_n hx hb dX12_mixTown_96 rfl (lv_at hl 1 rfl) ?_
  refine va_get (D := (dC, dI)) (ci := 12) (v := .int 0) (C := RX12) (T := TX12) (N := 46) hx hb hts (by decide +kernel) hown hK hP 0 rfl rfl 15 (by decide) (hts (.fieldLink RX12 148 "DearLettersModel" "letterMany" "I") (by decide +kernel)) (fun _ h9 => h9) rfl dX12_mixTown_97 ?_
  refine lv_icmp_ge (tgt := 153) hx hb dX12_mixTown_100 (by decide) (fun _ => ?_) (fun c => absurd (by decide) c)
  refine lv_iconst (v := 0) hx hb dX12_mixTown_153 (by decide) ?_
  refine lv_istore_n (lv' := [(1, .int 0), (0, .ref (ad 0))]) hx hb dX12_mixTown_154 rfl hl (by decide) rfl (fun ls hl => ?_)
  refine lv_iload_n hx hb dX12_mixTown_155 rfl (lv_at hl 0 rfl) ?_
  refine lv_iconst (v := 3) hx hb dX12_mixTown_156 (by decide) ?_
  refine lv_icmp_ge (tgt := 197) hx hb dX12_mixTown_157 (by decide) (fun c => absurd c (by decide)) (fun _ => ?_)
  refine lv_aload_n hx hb dX12_mixTown_160 rfl (lv_at hl 1 rfl) ?_
  refine lv_aload_n hx hb dX12_mixTown_161 rfl (lv_at hl 1 rfl) ?_
  refine va_get (D := (dC, dI)) (ci := 12) (v := .ref (ad 6)) (C := RX12) (T := TX12) (N := 46) hx hb hts (by decide +kernel) hown hK hP 0 rfl rfl 25 (by decide) (hts (.fieldLink RX12 52 "DearLettersModel" "kept" "[I") (by decide +kernel)) (fun _ h9 => h9) rfl dX12_mixTown_162 ?_
  refine lv_bipush (v := 64) hx hb dX12_mixTown_165 (by decide) ?_
  refine lv_iload_n hx hb dX12_mixTown_167 rfl (lv_at hl 0 rfl) ?_
  refine lv_imul hx hb dX12_mixTown_168 ?_
  refine lq_i 0 (by decide) ?_
  refine va_iald hx hb hK hP 6 5 rfl rfl (show vp_in 0 192 by unfold vp_in; decide) dX12_mixTown_169 ?_
  refine lq_i (-9) (by first | rfl | decide) ?_
  refine lv_bipush (v := (-9)) hx hb dX12_mixTown_170 (by decide) ?_
  refine lv_icmp_ne (tgt := 179) hx hb dX12_mixTown_172 (by decide) (fun c => absurd (by decide) c) (fun _ => ?_)
  refine lv_iconst (v := (-1)) hx hb dX12_mixTown_175 (by decide) ?_
  refine lv_goto (tgt := 188) hx hb dX12_mixTown_176 (by decide) ?_
  have hFc := va_free (wc := (wM cs ad 449473576731407)) hD hS hA [0, 1, 2, 3, 4, 5, 6] rfl
  refine va_callv (va_runV (As := [.int (-1)]) (rest := []) ⟨hx, hb, hml, hown, hts⟩ (cm_mix l dC dI cs ad 449473576731407 s.heap hP (hD.weaken (fun _ _ _ _ => trivial)) (-1) 13933680878673616 (by decide +kernel)) (cwV 1 hts gX12_mixTown_X12_mix rfl rfl rfl (by decide +kernel) ⟨Nat.le_of_ble_eq_true rfl, Nat.le_of_ble_eq_true rfl⟩) ⟨pb_c, va_recv hK hP (ci := 12) (q0 := 0) rfl rfl, pb_m hK⟩ rfl rfl hl.1 rfl (lv_room (Nat.le_of_ble_eq_true rfl)) dX12_mixTown_188 ⟨Nat.zero_le _, Nat.zero_le _⟩) hS (fun q _ h => hFc q h) hFc (fun u t H_1 locs ht hvm hw hB hz1 hk1 hS => ?_)
  have hP : va_P (dC, dI) vwCl (wM cs ad 13933680878673616) H_1 := by rw [← ht]; exact hB
  have hD : va_D (va_A (wM cs ad 449473576731407) s.heap.size) (wM cs ad 13933680878673616) := hD.set (p := 0) rfl
  refine lv_iinc (v := 1) (lv' := [(1, .int 1), (0, .ref (ad 0))]) hx hb dX12_mixTown_191 hl (k := 0) rfl (by decide) (by decide) rfl (fun ls hl => ?_)
  refine lv_goto (tgt := 155) hx hb dX12_mixTown_194 (by decide) ?_
  refine lv_iload_n hx hb dX12_mixTown_155 rfl (lv_at hl 0 rfl) ?_
  refine lv_iconst (v := 3) hx hb dX12_mixTown_156 (by decide) ?_
  refine lv_icmp_ge (tgt := 197) hx hb dX12_mixTown_157 (by decide) (fun c => absurd c (by decide)) (fun _ => ?_)
  refine lv_aload_n hx hb dX12_mixTown_160 rfl (lv_at hl 1 rfl) ?_
  refine lv_aload_n hx hb dX12_mixTown_161 rfl (lv_at hl 1 rfl) ?_
  refine va_get (D := (dC, dI)) (ci := 12) (v := .ref (ad 6)) (C := RX12) (T := TX12) (N := 46) hx hb hts (by decide +kernel) hown hK hP 0 rfl rfl 25 (by decide) (hts (.fieldLink RX12 52 "DearLettersModel" "kept" "[I") (by decide +kernel)) (fun _ h9 => h9) rfl dX12_mixTown_162 ?_
  refine lv_bipush (v := 64) hx hb dX12_mixTown_165 (by decide) ?_
  refine lv_iload_n hx hb dX12_mixTown_167 rfl (lv_at hl 0 rfl) ?_
  refine lv_imul hx hb dX12_mixTown_168 ?_
  refine lq_i 64 (by decide) ?_
  refine va_iald hx hb hK hP 6 5 rfl rfl (show vp_in 64 192 by unfold vp_in; decide) dX12_mixTown_169 ?_
  refine lq_i (-9) (by first | rfl | decide) ?_
  refine lv_bipush (v := (-9)) hx hb dX12_mixTown_170 (by decide) ?_
  refine lv_icmp_ne (tgt := 179) hx hb dX12_mixTown_172 (by decide) (fun c => absurd (by decide) c) (fun _ => ?_)
  refine lv_iconst (v := (-1)) hx hb dX12_mixTown_175 (by decide) ?_
  refine lv_goto (tgt := 188) hx hb dX12_mixTown_176 (by decide) ?_
  have hFc := va_free (wc := (wM cs ad 13933680878673616)) hD hS hA [0, 1, 2, 3, 4, 5, 6] rfl
  refine va_callv (va_runV (As := [.int (-1)]) (rest := []) ⟨hx, hb, hml, hown, hts⟩ (cm_mix l dC dI cs ad 13933680878673616 H_1 hP (hD.weaken (fun _ _ _ _ => trivial)) (-1) 431944107238882095 (by decide +kernel)) (cwV 1 hts gX12_mixTown_X12_mix rfl rfl rfl (by decide +kernel) ⟨Nat.le_of_ble_eq_true rfl, Nat.le_of_ble_eq_true rfl⟩) ⟨pb_c, va_recv hK hP (ci := 12) (q0 := 0) rfl rfl, pb_m hK⟩ rfl rfl hl.1 rfl (lv_room (Nat.le_of_ble_eq_true rfl)) dX12_mixTown_188 ⟨Nat.zero_le _, Nat.zero_le _⟩) hS (fun q _ h => hFc q h) hFc (fun u t H_2 locs ht hvm hw hB hz1 hk1 hS => ?_)
  have hP : va_P (dC, dI) vwCl (wM cs ad 431944107238882095) H_2 := by rw [← ht]; exact hB
  have hD : va_D (va_A (wM cs ad 449473576731407) s.heap.size) (wM cs ad 431944107238882095) := hD.set (p := 0) rfl
  refine lv_iinc (v := 2) (lv' := [(1, .int 2), (0, .ref (ad 0))]) hx hb dX12_mixTown_191 hl (k := 0) rfl (by decide) (by decide) rfl (fun ls hl => ?_)
  refine lv_goto (tgt := 155) hx hb dX12_mixTown_194 (by decide) ?_
  refine lv_iload_n hx hb dX12_mixTown_155 rfl (lv_at hl 0 rfl) ?_
  refine lv_iconst (v := 3) hx hb dX12_mixTown_156 (by decide) ?_
  refine lv_icmp_ge (tgt := 197) hx hb dX12_mixTown_157 (by decide) (fun c => absurd c (by decide)) (fun _ => ?_)
  refine lv_aload_n hx hb dX12_mixTown_160 rfl (lv_at hl 1 rfl) ?_
  refine lv_aload_n hx hb dX12_mixTown_161 rfl (lv_at hl 1 rfl) ?_
  refine va_get (D := (dC, dI)) (ci := 12) (v := .ref (ad 6)) (C := RX12) (T := TX12) (N := 46) hx hb hts (by decide +kernel) hown hK hP 0 rfl rfl 25 (by decide) (hts (.fieldLink RX12 52 "DearLettersModel" "kept" "[I") (by decide +kernel)) (fun _ h9 => h9) rfl dX12_mixTown_162 ?_
  refine lv_bipush (v := 64) hx hb dX12_mixTown_165 (by decide) ?_
  refine lv_iload_n hx hb dX12_mixTown_167 rfl (lv_at hl 0 rfl) ?_
  refine lv_imul hx hb dX12_mixTown_168 ?_
  refine lq_i 128 (by decide) ?_
  refine va_iald hx hb hK hP 6 5 rfl rfl (show vp_in 128 192 by unfold vp_in; decide) dX12_mixTown_169 ?_
  refine lq_i (-9) (by first | rfl | decide) ?_
  refine lv_bipush (v := (-9)) hx hb dX12_mixTown_170 (by decide) ?_
  refine lv_icmp_ne (tgt := 179) hx hb dX12_mixTown_172 (by decide) (fun c => absurd (by decide) c) (fun _ => ?_)
  refine lv_iconst (v := (-1)) hx hb dX12_mixTown_175 (by decide) ?_
  refine lv_goto (tgt := 188) hx hb dX12_mixTown_176 (by decide) ?_
  have hFc := va_free (wc := (wM cs ad 431944107238882095)) hD hS hA [0, 1, 2, 3, 4, 5, 6] rfl
  refine va_callv (va_runV (As := [.int (-1)]) (rest := []) ⟨hx, hb, hml, hown, hts⟩ (cm_mix l dC dI cs ad 431944107238882095 H_2 hP (hD.weaken (fun _ _ _ _ => trivial)) (-1) (-5056476749304206672) (by decide +kernel)) (cwV 1 hts gX12_mixTown_X12_mix rfl rfl rfl (by decide +kernel) ⟨Nat.le_of_ble_eq_true rfl, Nat.le_of_ble_eq_true rfl⟩) ⟨pb_c, va_recv hK hP (ci := 12) (q0 := 0) rfl rfl, pb_m hK⟩ rfl rfl hl.1 rfl (lv_room (Nat.le_of_ble_eq_true rfl)) dX12_mixTown_188 ⟨Nat.zero_le _, Nat.zero_le _⟩) hS (fun q _ h => hFc q h) hFc (fun u t H_3 locs ht hvm hw hB hz1 hk1 hS => ?_)
  have hP : va_P (dC, dI) vwCl (wM cs ad (-5056476749304206672)) H_3 := by rw [← ht]; exact hB
  have hD : va_D (va_A (wM cs ad 449473576731407) s.heap.size) (wM cs ad (-5056476749304206672)) := hD.set (p := 0) rfl
  refine lv_iinc (v := 3) (lv' := [(1, .int 3), (0, .ref (ad 0))]) hx hb dX12_mixTown_191 hl (k := 0) rfl (by decide) (by decide) rfl (fun ls hl => ?_)
  refine lv_goto (tgt := 155) hx hb dX12_mixTown_194 (by decide) ?_
  refine lv_iload_n hx hb dX12_mixTown_155 rfl (lv_at hl 0 rfl) ?_
  refine lv_iconst (v := 3) hx hb dX12_mixTown_156 (by decide) ?_
  refine lv_icmp_ge (tgt := 197) hx hb dX12_mixTown_157 (by decide) (fun _ => ?_) (fun c => absurd (by decide) c)
  exact W.vret hx hb hr (fun t ht hW => ⟨⟨(), rfl, trivial, by subst ht; exact hP⟩, hS.F ht⟩) hS.2.2 dX12_mixTown_197
theorem dX12_digest_0 : decode cX12_digest 0 = .ok (.aload_n 0, 1) := by decide +kernel
theorem dX12_digest_1 : decode cX12_digest 1 = .ok (.ldc2_w 321, 3) := by decide +kernel
theorem dX12_digest_4 : decode cX12_digest 4 = .ok (.putfield 314, 3) := by decide +kernel
theorem dX12_digest_7 : decode cX12_digest 7 = .ok (.iconst 0, 1) := by decide +kernel
theorem dX12_digest_8 : decode cX12_digest 8 = .ok (.istore_n 1, 1) := by decide +kernel
theorem dX12_digest_9 : decode cX12_digest 9 = .ok (.iload_n 1, 1) := by decide +kernel
theorem dX12_digest_10 : decode cX12_digest 10 = .ok (.bipush 8, 2) := by decide +kernel
theorem dX12_digest_12 : decode cX12_digest 12 = .ok (.if_icmp .gt 18, 3) := by decide +kernel
theorem dX12_digest_15 : decode cX12_digest 15 = .ok (.aload_n 0, 1) := by decide +kernel
theorem dX12_digest_16 : decode cX12_digest 16 = .ok (.aload_n 0, 1) := by decide +kernel
theorem dX12_digest_17 : decode cX12_digest 17 = .ok (.iload_n 1, 1) := by decide +kernel
theorem dX12_digest_18 : decode cX12_digest 18 = .ok (.invokevirtual 309, 3) := by decide +kernel
theorem dX12_digest_21 : decode cX12_digest 21 = .ok (.invokevirtual 318, 3) := by decide +kernel
theorem dX12_digest_24 : decode cX12_digest 24 = .ok (.iinc 1 1, 3) := by decide +kernel
theorem dX12_digest_27 : decode cX12_digest 27 = .ok (.goto (-18), 3) := by decide +kernel
theorem dX12_digest_30 : decode cX12_digest 30 = .ok (.aload_n 0, 1) := by decide +kernel
theorem dX12_digest_31 : decode cX12_digest 31 = .ok (.invokevirtual 323, 3) := by decide +kernel
theorem dX12_digest_34 : decode cX12_digest 34 = .ok (.iconst 0, 1) := by decide +kernel
theorem dX12_digest_35 : decode cX12_digest 35 = .ok (.istore_n 1, 1) := by decide +kernel
theorem dX12_digest_36 : decode cX12_digest 36 = .ok (.iload_n 1, 1) := by decide +kernel
theorem dX12_digest_37 : decode cX12_digest 37 = .ok (.bipush 6, 2) := by decide +kernel
theorem dX12_digest_39 : decode cX12_digest 39 = .ok (.if_icmp .ge 60, 3) := by decide +kernel
theorem dX12_digest_42 : decode cX12_digest 42 = .ok (.aload_n 0, 1) := by decide +kernel
theorem dX12_digest_43 : decode cX12_digest 43 = .ok (.aload_n 0, 1) := by decide +kernel
theorem dX12_digest_44 : decode cX12_digest 44 = .ok (.getfield 13, 3) := by decide +kernel
theorem dX12_digest_47 : decode cX12_digest 47 = .ok (.iload_n 1, 1) := by decide +kernel
theorem dX12_digest_48 : decode cX12_digest 48 = .ok (.iaload, 1) := by decide +kernel
theorem dX12_digest_49 : decode cX12_digest 49 = .ok (.ifCond .ge 7, 3) := by decide +kernel
theorem dX12_digest_52 : decode cX12_digest 52 = .ok (.iconst (-1), 1) := by decide +kernel
theorem dX12_digest_53 : decode cX12_digest 53 = .ok (.goto 9, 3) := by decide +kernel
theorem dX12_digest_62 : decode cX12_digest 62 = .ok (.invokevirtual 318, 3) := by decide +kernel
theorem dX12_digest_65 : decode cX12_digest 65 = .ok (.iconst 0, 1) := by decide +kernel
theorem dX12_digest_66 : decode cX12_digest 66 = .ok (.istore_n 2, 1) := by decide +kernel
theorem dX12_digest_67 : decode cX12_digest 67 = .ok (.iload_n 2, 1) := by decide +kernel
theorem dX12_digest_68 : decode cX12_digest 68 = .ok (.aload_n 0, 1) := by decide +kernel
theorem dX12_digest_69 : decode cX12_digest 69 = .ok (.getfield 13, 3) := by decide +kernel
theorem dX12_digest_72 : decode cX12_digest 72 = .ok (.iload_n 1, 1) := by decide +kernel
theorem dX12_digest_73 : decode cX12_digest 73 = .ok (.iaload, 1) := by decide +kernel
theorem dX12_digest_74 : decode cX12_digest 74 = .ok (.if_icmp .ge 19, 3) := by decide +kernel
theorem dX12_digest_93 : decode cX12_digest 93 = .ok (.iinc 1 1, 3) := by decide +kernel
theorem dX12_digest_96 : decode cX12_digest 96 = .ok (.goto (-60), 3) := by decide +kernel
theorem dX12_digest_99 : decode cX12_digest 99 = .ok (.iconst 0, 1) := by decide +kernel
theorem dX12_digest_100 : decode cX12_digest 100 = .ok (.istore_n 1, 1) := by decide +kernel
theorem dX12_digest_101 : decode cX12_digest 101 = .ok (.iload_n 1, 1) := by decide +kernel
theorem dX12_digest_102 : decode cX12_digest 102 = .ok (.iconst 4, 1) := by decide +kernel
theorem dX12_digest_103 : decode cX12_digest 103 = .ok (.if_icmp .ge 65, 3) := by decide +kernel
theorem dX12_digest_106 : decode cX12_digest 106 = .ok (.aload_n 0, 1) := by decide +kernel
theorem dX12_digest_107 : decode cX12_digest 107 = .ok (.aload_n 0, 1) := by decide +kernel
theorem dX12_digest_108 : decode cX12_digest 108 = .ok (.getfield 22, 3) := by decide +kernel
theorem dX12_digest_111 : decode cX12_digest 111 = .ok (.iload_n 1, 1) := by decide +kernel
theorem dX12_digest_112 : decode cX12_digest 112 = .ok (.iaload, 1) := by decide +kernel
theorem dX12_digest_113 : decode cX12_digest 113 = .ok (.ifCond .ge 7, 3) := by decide +kernel
theorem dX12_digest_116 : decode cX12_digest 116 = .ok (.iconst (-1), 1) := by decide +kernel
theorem dX12_digest_117 : decode cX12_digest 117 = .ok (.goto 9, 3) := by decide +kernel
theorem dX12_digest_126 : decode cX12_digest 126 = .ok (.invokevirtual 318, 3) := by decide +kernel
theorem dX12_digest_129 : decode cX12_digest 129 = .ok (.iconst 0, 1) := by decide +kernel
theorem dX12_digest_130 : decode cX12_digest 130 = .ok (.istore_n 2, 1) := by decide +kernel
theorem dX12_digest_131 : decode cX12_digest 131 = .ok (.iload_n 2, 1) := by decide +kernel
theorem dX12_digest_132 : decode cX12_digest 132 = .ok (.aload_n 0, 1) := by decide +kernel
theorem dX12_digest_133 : decode cX12_digest 133 = .ok (.getfield 22, 3) := by decide +kernel
theorem dX12_digest_136 : decode cX12_digest 136 = .ok (.iload_n 1, 1) := by decide +kernel
theorem dX12_digest_137 : decode cX12_digest 137 = .ok (.iaload, 1) := by decide +kernel
theorem dX12_digest_138 : decode cX12_digest 138 = .ok (.if_icmp .ge 24, 3) := by decide +kernel
theorem dX12_digest_162 : decode cX12_digest 162 = .ok (.iinc 1 1, 3) := by decide +kernel
theorem dX12_digest_165 : decode cX12_digest 165 = .ok (.goto (-64), 3) := by decide +kernel
theorem dX12_digest_168 : decode cX12_digest 168 = .ok (.aload_n 0, 1) := by decide +kernel
theorem dX12_digest_169 : decode cX12_digest 169 = .ok (.getfield 314, 3) := by decide +kernel
theorem dX12_digest_172 : decode cX12_digest 172 = .ok (.lreturn, 1) := by decide +kernel
set_option maxRecDepth 20000 in
theorem ggX12_digest_X12_tells : GoodIn wsX12_digest wsX12_tells := goodIn_r _ [10, 3, 4, 11, 12, 13, 14, 15, 16, 17, 18, 19, 9, 20, 66, 67, 68, 69, 70, 71, 72, 73, 74, 75, 76, 77, 78, 79, 80, 81, 82, 83, 84, 85, 86, 87, 88, 89, 90, 91, 92, 93, 94, 95, 96, 97, 98, 99, 100, 101, 102, 103, 104, 105, 106, 107, 108, 109, 110, 111] (by decide +kernel) (by decide +kernel)
set_option maxRecDepth 20000 in
theorem gX12_digest_X12_tells : GoodIn wsX12_digest (wsV RX12 309 RX12 yX12_tells wsX12_tells) := goodIn_app (goodIn_of _ (by decide +kernel)) ggX12_digest_X12_tells
set_option maxRecDepth 20000 in
theorem ggX12_digest_X12_mix : GoodIn wsX12_digest wsX12_mix := goodIn_r _ [24, 25, 2, 66, 67, 68, 69, 70, 71, 72, 73, 74, 75, 76, 77, 78, 79, 80, 81, 82, 83, 84, 85, 86, 87, 88, 89, 90, 91, 92, 93, 94, 95, 96, 97, 98, 99, 100, 101, 102, 103, 104, 105, 106, 107, 108, 109, 110, 111] (by decide +kernel) (by decide +kernel)
set_option maxRecDepth 20000 in
theorem gX12_digest_X12_mix : GoodIn wsX12_digest (wsV RX12 318 RX12 yX12_mix wsX12_mix) := goodIn_app (goodIn_of _ (by decide +kernel)) ggX12_digest_X12_mix
set_option maxRecDepth 20000 in
theorem ggX12_digest_X12_mixTown : GoodIn wsX12_digest wsX12_mixTown := goodIn_r _ [29, 12, 13, 30, 17, 15, 11, 31, 32, 33, 9, 34, 35, 36, 37, 38, 39, 40, 41, 42, 43, 44, 45, 46, 47, 48, 49, 50, 51, 52, 18, 19, 20, 21, 22, 23, 24, 25, 2, 53, 54, 55, 56, 57, 58, 59, 60, 14, 66, 67, 68, 69, 70, 71, 72, 73, 74, 75, 76, 77, 78, 79, 80, 81, 82, 83, 84, 85, 86, 87, 88, 89, 90, 91, 92, 93, 94, 95, 96, 97, 98, 99, 100, 101, 102, 103, 104, 105, 106, 107, 108, 109, 110, 111] (by decide +kernel) (by decide +kernel)
set_option maxRecDepth 20000 in
theorem gX12_digest_X12_mixTown : GoodIn wsX12_digest (wsV RX12 323 RX12 yX12_mixTown wsX12_mixTown) := goodIn_app (goodIn_of _ (by decide +kernel)) ggX12_digest_X12_mixTown
set_option maxHeartbeats 4000000 in
set_option maxRecDepth 100000 in
/-- digest -/
theorem pm_digest (l : Launch) (dC : Nat → ClassId) (dI : Nat → Nat → Nat) (cs : Nat → ClassId) (ad : Nat → Nat) (H : Heap) (hP : va_P (dC, dI) vwCl (wM cs ad 0) H) (hD0 : va_D (fun _ => True) (wM cs ad 0)) : Met l yX12_digest wsX12_digest ({ frames := 2, cells := 0, slots := 0, locals := 45 }) (va_Pc [.ref (ad 0)] (pb_P (dC, dI) vwCl (tyM cs) H)) (va_Ql (fun (z : Int64) (_ : Unit) => z = (-1249613273421505008)) (fun _ _ => True) (va_A (wM cs ad 0) H.size)) 0 0 (va_A (wM cs ad 0) H.size) := by
  refine Met.ofW (cc := cX12_digest) (maxL := 3) (ret := (some .long)) (by decide) rfl ?_
  intro p e s m args below meth c s₁ B hml hv
  obtain ⟨rfl, hh, hK⟩ := hv
  have hx := B.exec
  have hb := B.bytes
  have hr := B.returns
  have hts := atoms_spec (ws := wsX12_digest) B.pre
  have hown : s.vm.findClass RX12 = some m.cls := findClass_of_methodNamed B.named
  have hlocks := B.notSynchronized
  subst hh
  have hD := hD0.self (sz := s.heap.size)
  have hA : ∀ q : Nat, s.heap.size ≤ q → va_A (wM cs ad 0) s.heap.size q := fun q h => Or.inr h
  have hS : va_S (va_A (wM cs ad 0) s.heap.size) s.heap s.heap [] := va_S.rf
  have hl := lv_entry ([.ref (ad 0)]) (n := 3) (Nat.le_of_ble_eq_true rfl)
  rw [lg_entry_eq]
  generalize (lg_sl ([.ref (ad 0)]) ++ List.replicate (3 - (lg_sl ([.ref (ad 0)])).length) Slot.unset).toArray = ls at hl ⊢
  have hl : lv_has ls 3 [(0, .ref (ad 0))] := hl
  refine lv_aload_n hx hb dX12_digest_0 rfl (lv_at hl 0 rfl) ?_
  refine lv_ldc2 (v := 17) hx hb hown (hts (.constantLong RX12 321 17) (by decide +kernel)) dX12_digest_1 ?_
  refine va_put (D := (dC, dI)) (ci := 12) (v := .long 17) (ty := .long) (C := RX12) (T := TX12) (N := 46) hx hb hts (by decide +kernel) tyX12 tyX12_ok nmX12 hown hK hP hD hS 0 rfl rfl 45 (by decide) (hts (.fieldLink RX12 314 "DearLettersModel" "h0" "J") (by decide +kernel)) (fun _ h9 => h9) rfl (by decide +kernel) (by first | rfl | decide) (by first | rfl | decide) (Nat.le_of_ble_eq_true rfl) dX12_digest_4 (fun H locs hP hD hS => ?_)
  have hP : va_P (dC, dI) vwCl (wM cs ad 17) H := hP
  have hD : va_D (va_A (wM cs ad 0) s.heap.size) (wM cs ad 17) := hD
  refine lv_iconst (v := 0) hx hb dX12_digest_7 (by decide) ?_
  refine lv_istore_n (lv' := [(1, .int 0), (0, .ref (ad 0))]) hx hb dX12_digest_8 rfl hl (by decide) rfl (fun ls hl => ?_)
  refine lv_iload_n hx hb dX12_digest_9 rfl (lv_at hl 0 rfl) ?_
  refine lv_bipush (v := 8) hx hb dX12_digest_10 (by decide) ?_
  refine lv_icmp_gt (tgt := 30) hx hb dX12_digest_12 (by decide) (fun c => absurd c (by decide)) (fun _ => ?_)
  refine lv_aload_n hx hb dX12_digest_15 rfl (lv_at hl 1 rfl) ?_
  refine lv_aload_n hx hb dX12_digest_16 rfl (lv_at hl 1 rfl) ?_
  refine lv_iload_n hx hb dX12_digest_17 rfl (lv_at hl 0 rfl) ?_
  refine cr_i (va_runV (As := [.int 0]) (rest := [.ref (ad 0)]) ⟨hx, hb, hml, hown, hts⟩ (cm_tells l dC dI cs ad H hP 0 (show 0 ≤ Int32.toInt 0 ∧ Int32.toInt 0 < 9 by first | omega | decide)) (cwV 1 hts gX12_digest_X12_tells rfl rfl rfl (by decide +kernel) ⟨Nat.le_of_ble_eq_true rfl, Nat.le_of_ble_eq_true rfl⟩) ⟨pb_c, va_recv hK hP (ci := 12) (q0 := 0) rfl rfl, pb_m hK⟩ rfl rfl hl.1 rfl (lv_room (Nat.le_of_ble_eq_true rfl)) dX12_digest_18 ⟨Nat.zero_le _, Nat.zero_le _⟩) hS (fun r_1 hw_1 locs hS => ?_)
  obtain rfl : r_1 = 0 := hw_1
  have hFc := va_free (wc := (wM cs ad 17)) hD hS hA [0, 1, 2, 3, 4, 5, 6] rfl
  refine va_callv (va_runV (As := [.int 0]) (rest := []) ⟨hx, hb, hml, hown, hts⟩ (cm_mix l dC dI cs ad 17 H hP (hD.weaken (fun _ _ _ _ => trivial)) 0 527 (by decide +kernel)) (cwV 1 hts gX12_digest_X12_mix rfl rfl rfl (by decide +kernel) ⟨Nat.le_of_ble_eq_true rfl, Nat.le_of_ble_eq_true rfl⟩) ⟨pb_c, va_recv hK hP (ci := 12) (q0 := 0) rfl rfl, pb_m hK⟩ rfl rfl hl.1 rfl (lv_room (Nat.le_of_ble_eq_true rfl)) dX12_digest_21 ⟨Nat.zero_le _, Nat.zero_le _⟩) hS (fun q _ h => hFc q h) hFc (fun u t H_2 locs ht hvm hw hB hz1 hk1 hS => ?_)
  have hP : va_P (dC, dI) vwCl (wM cs ad 527) H_2 := by rw [← ht]; exact hB
  have hD : va_D (va_A (wM cs ad 0) s.heap.size) (wM cs ad 527) := hD.set (p := 0) rfl
  refine lv_iinc (v := 1) (lv' := [(1, .int 1), (0, .ref (ad 0))]) hx hb dX12_digest_24 hl (k := 0) rfl (by decide) (by decide) rfl (fun ls hl => ?_)
  refine lv_goto (tgt := 9) hx hb dX12_digest_27 (by decide) ?_
  refine lv_iload_n hx hb dX12_digest_9 rfl (lv_at hl 0 rfl) ?_
  refine lv_bipush (v := 8) hx hb dX12_digest_10 (by decide) ?_
  refine lv_icmp_gt (tgt := 30) hx hb dX12_digest_12 (by decide) (fun c => absurd c (by decide)) (fun _ => ?_)
  refine lv_aload_n hx hb dX12_digest_15 rfl (lv_at hl 1 rfl) ?_
  refine lv_aload_n hx hb dX12_digest_16 rfl (lv_at hl 1 rfl) ?_
  refine lv_iload_n hx hb dX12_digest_17 rfl (lv_at hl 0 rfl) ?_
  refine cr_i (va_runV (As := [.int 1]) (rest := [.ref (ad 0)]) ⟨hx, hb, hml, hown, hts⟩ (cm_tells l dC dI cs ad H_2 hP 1 (show 0 ≤ Int32.toInt 1 ∧ Int32.toInt 1 < 9 by first | omega | decide)) (cwV 1 hts gX12_digest_X12_tells rfl rfl rfl (by decide +kernel) ⟨Nat.le_of_ble_eq_true rfl, Nat.le_of_ble_eq_true rfl⟩) ⟨pb_c, va_recv hK hP (ci := 12) (q0 := 0) rfl rfl, pb_m hK⟩ rfl rfl hl.1 rfl (lv_room (Nat.le_of_ble_eq_true rfl)) dX12_digest_18 ⟨Nat.zero_le _, Nat.zero_le _⟩) hS (fun r_3 hw_3 locs hS => ?_)
  obtain rfl : r_3 = 0 := hw_3
  have hFc := va_free (wc := (wM cs ad 527)) hD hS hA [0, 1, 2, 3, 4, 5, 6] rfl
  refine va_callv (va_runV (As := [.int 0]) (rest := []) ⟨hx, hb, hml, hown, hts⟩ (cm_mix l dC dI cs ad 527 H_2 hP (hD.weaken (fun _ _ _ _ => trivial)) 0 16337 (by decide +kernel)) (cwV 1 hts gX12_digest_X12_mix rfl rfl rfl (by decide +kernel) ⟨Nat.le_of_ble_eq_true rfl, Nat.le_of_ble_eq_true rfl⟩) ⟨pb_c, va_recv hK hP (ci := 12) (q0 := 0) rfl rfl, pb_m hK⟩ rfl rfl hl.1 rfl (lv_room (Nat.le_of_ble_eq_true rfl)) dX12_digest_21 ⟨Nat.zero_le _, Nat.zero_le _⟩) hS (fun q _ h => hFc q h) hFc (fun u t H_4 locs ht hvm hw hB hz1 hk1 hS => ?_)
  have hP : va_P (dC, dI) vwCl (wM cs ad 16337) H_4 := by rw [← ht]; exact hB
  have hD : va_D (va_A (wM cs ad 0) s.heap.size) (wM cs ad 16337) := hD.set (p := 0) rfl
  refine lv_iinc (v := 2) (lv' := [(1, .int 2), (0, .ref (ad 0))]) hx hb dX12_digest_24 hl (k := 0) rfl (by decide) (by decide) rfl (fun ls hl => ?_)
  refine lv_goto (tgt := 9) hx hb dX12_digest_27 (by decide) ?_
  refine lv_iload_n hx hb dX12_digest_9 rfl (lv_at hl 0 rfl) ?_
  refine lv_bipush (v := 8) hx hb dX12_digest_10 (by decide) ?_
  refine lv_icmp_gt (tgt := 30) hx hb dX12_digest_12 (by decide) (fun c => absurd c (by decide)) (fun _ => ?_)
  refine lv_aload_n hx hb dX12_digest_15 rfl (lv_at hl 1 rfl) ?_
  refine lv_aload_n hx hb dX12_digest_16 rfl (lv_at hl 1 rfl) ?_
  refine lv_iload_n hx hb dX12_digest_17 rfl (lv_at hl 0 rfl) ?_
  refine cr_i (va_runV (As := [.int 2]) (rest := [.ref (ad 0)]) ⟨hx, hb, hml, hown, hts⟩ (cm_tells l dC dI cs ad H_4 hP 2 (show 0 ≤ Int32.toInt 2 ∧ Int32.toInt 2 < 9 by first | omega | decide)) (cwV 1 hts gX12_digest_X12_tells rfl rfl rfl (by decide +kernel) ⟨Nat.le_of_ble_eq_true rfl, Nat.le_of_ble_eq_true rfl⟩) ⟨pb_c, va_recv hK hP (ci := 12) (q0 := 0) rfl rfl, pb_m hK⟩ rfl rfl hl.1 rfl (lv_room (Nat.le_of_ble_eq_true rfl)) dX12_digest_18 ⟨Nat.zero_le _, Nat.zero_le _⟩) hS (fun r_5 hw_5 locs hS => ?_)
  obtain rfl : r_5 = 0 := hw_5
  have hFc := va_free (wc := (wM cs ad 16337)) hD hS hA [0, 1, 2, 3, 4, 5, 6] rfl
  refine va_callv (va_runV (As := [.int 0]) (rest := []) ⟨hx, hb, hml, hown, hts⟩ (cm_mix l dC dI cs ad 16337 H_4 hP (hD.weaken (fun _ _ _ _ => trivial)) 0 506447 (by decide +kernel)) (cwV 1 hts gX12_digest_X12_mix rfl rfl rfl (by decide +kernel) ⟨Nat.le_of_ble_eq_true rfl, Nat.le_of_ble_eq_true rfl⟩) ⟨pb_c, va_recv hK hP (ci := 12) (q0 := 0) rfl rfl, pb_m hK⟩ rfl rfl hl.1 rfl (lv_room (Nat.le_of_ble_eq_true rfl)) dX12_digest_21 ⟨Nat.zero_le _, Nat.zero_le _⟩) hS (fun q _ h => hFc q h) hFc (fun u t H_6 locs ht hvm hw hB hz1 hk1 hS => ?_)
  have hP : va_P (dC, dI) vwCl (wM cs ad 506447) H_6 := by rw [← ht]; exact hB
  have hD : va_D (va_A (wM cs ad 0) s.heap.size) (wM cs ad 506447) := hD.set (p := 0) rfl
  refine lv_iinc (v := 3) (lv' := [(1, .int 3), (0, .ref (ad 0))]) hx hb dX12_digest_24 hl (k := 0) rfl (by decide) (by decide) rfl (fun ls hl => ?_)
  refine lv_goto (tgt := 9) hx hb dX12_digest_27 (by decide) ?_
  refine lv_iload_n hx hb dX12_digest_9 rfl (lv_at hl 0 rfl) ?_
  refine lv_bipush (v := 8) hx hb dX12_digest_10 (by decide) ?_
  refine lv_icmp_gt (tgt := 30) hx hb dX12_digest_12 (by decide) (fun c => absurd c (by decide)) (fun _ => ?_)
  refine lv_aload_n hx hb dX12_digest_15 rfl (lv_at hl 1 rfl) ?_
  refine lv_aload_n hx hb dX12_digest_16 rfl (lv_at hl 1 rfl) ?_
  refine lv_iload_n hx hb dX12_digest_17 rfl (lv_at hl 0 rfl) ?_
  refine cr_i (va_runV (As := [.int 3]) (rest := [.ref (ad 0)]) ⟨hx, hb, hml, hown, hts⟩ (cm_tells l dC dI cs ad H_6 hP 3 (show 0 ≤ Int32.toInt 3 ∧ Int32.toInt 3 < 9 by first | omega | decide)) (cwV 1 hts gX12_digest_X12_tells rfl rfl rfl (by decide +kernel) ⟨Nat.le_of_ble_eq_true rfl, Nat.le_of_ble_eq_true rfl⟩) ⟨pb_c, va_recv hK hP (ci := 12) (q0 := 0) rfl rfl, pb_m hK⟩ rfl rfl hl.1 rfl (lv_room (Nat.le_of_ble_eq_true rfl)) dX12_digest_18 ⟨Nat.zero_le _, Nat.zero_le _⟩) hS (fun r_7 hw_7 locs hS => ?_)
  obtain rfl : r_7 = 0 := hw_7
  have hFc := va_free (wc := (wM cs ad 506447)) hD hS hA [0, 1, 2, 3, 4, 5, 6] rfl
  refine va_callv (va_runV (As := [.int 0]) (rest := []) ⟨hx, hb, hml, hown, hts⟩ (cm_mix l dC dI cs ad 506447 H_6 hP (hD.weaken (fun _ _ _ _ => trivial)) 0 15699857 (by decide +kernel)) (cwV 1 hts gX12_digest_X12_mix rfl rfl rfl (by decide +kernel) ⟨Nat.le_of_ble_eq_true rfl, Nat.le_of_ble_eq_true rfl⟩) ⟨pb_c, va_recv hK hP (ci := 12) (q0 := 0) rfl rfl, pb_m hK⟩ rfl rfl hl.1 rfl (lv_room (Nat.le_of_ble_eq_true rfl)) dX12_digest_21 ⟨Nat.zero_le _, Nat.zero_le _⟩) hS (fun q _ h => hFc q h) hFc (fun u t H_8 locs ht hvm hw hB hz1 hk1 hS => ?_)
  have hP : va_P (dC, dI) vwCl (wM cs ad 15699857) H_8 := by rw [← ht]; exact hB
  have hD : va_D (va_A (wM cs ad 0) s.heap.size) (wM cs ad 15699857) := hD.set (p := 0) rfl
  refine lv_iinc (v := 4) (lv' := [(1, .int 4), (0, .ref (ad 0))]) hx hb dX12_digest_24 hl (k := 0) rfl (by decide) (by decide) rfl (fun ls hl => ?_)
  refine lv_goto (tgt := 9) hx hb dX12_digest_27 (by decide) ?_
  refine lv_iload_n hx hb dX12_digest_9 rfl (lv_at hl 0 rfl) ?_
  refine lv_bipush (v := 8) hx hb dX12_digest_10 (by decide) ?_
  refine lv_icmp_gt (tgt := 30) hx hb dX12_digest_12 (by decide) (fun c => absurd c (by decide)) (fun _ => ?_)
  refine lv_aload_n hx hb dX12_digest_15 rfl (lv_at hl 1 rfl) ?_
  refine lv_aload_n hx hb dX12_digest_16 rfl (lv_at hl 1 rfl) ?_
  refine lv_iload_n hx hb dX12_digest_17 rfl (lv_at hl 0 rfl) ?_
  refine cr_i (va_runV (As := [.int 4]) (rest := [.ref (ad 0)]) ⟨hx, hb, hml, hown, hts⟩ (cm_tells l dC dI cs ad H_8 hP 4 (show 0 ≤ Int32.toInt 4 ∧ Int32.toInt 4 < 9 by first | omega | decide)) (cwV 1 hts gX12_digest_X12_tells rfl rfl rfl (by decide +kernel) ⟨Nat.le_of_ble_eq_true rfl, Nat.le_of_ble_eq_true rfl⟩) ⟨pb_c, va_recv hK hP (ci := 12) (q0 := 0) rfl rfl, pb_m hK⟩ rfl rfl hl.1 rfl (lv_room (Nat.le_of_ble_eq_true rfl)) dX12_digest_18 ⟨Nat.zero_le _, Nat.zero_le _⟩) hS (fun r_9 hw_9 locs hS => ?_)
  obtain rfl : r_9 = 0 := hw_9
  have hFc := va_free (wc := (wM cs ad 15699857)) hD hS hA [0, 1, 2, 3, 4, 5, 6] rfl
  refine va_callv (va_runV (As := [.int 0]) (rest := []) ⟨hx, hb, hml, hown, hts⟩ (cm_mix l dC dI cs ad 15699857 H_8 hP (hD.weaken (fun _ _ _ _ => trivial)) 0 486695567 (by decide +kernel)) (cwV 1 hts gX12_digest_X12_mix rfl rfl rfl (by decide +kernel) ⟨Nat.le_of_ble_eq_true rfl, Nat.le_of_ble_eq_true rfl⟩) ⟨pb_c, va_recv hK hP (ci := 12) (q0 := 0) rfl rfl, pb_m hK⟩ rfl rfl hl.1 rfl (lv_room (Nat.le_of_ble_eq_true rfl)) dX12_digest_21 ⟨Nat.zero_le _, Nat.zero_le _⟩) hS (fun q _ h => hFc q h) hFc (fun u t H_10 locs ht hvm hw hB hz1 hk1 hS => ?_)
  have hP : va_P (dC, dI) vwCl (wM cs ad 486695567) H_10 := by rw [← ht]; exact hB
  have hD : va_D (va_A (wM cs ad 0) s.heap.size) (wM cs ad 486695567) := hD.set (p := 0) rfl
  refine lv_iinc (v := 5) (lv' := [(1, .int 5), (0, .ref (ad 0))]) hx hb dX12_digest_24 hl (k := 0) rfl (by decide) (by decide) rfl (fun ls hl => ?_)
  refine lv_goto (tgt := 9) hx hb dX12_digest_27 (by decide) ?_
  refine lv_iload_n hx hb dX12_digest_9 rfl (lv_at hl 0 rfl) ?_
  refine lv_bipush (v := 8) hx hb dX12_digest_10 (by decide) ?_
  refine lv_icmp_gt (tgt := 30) hx hb dX12_digest_12 (by decide) (fun c => absurd c (by decide)) (fun _ => ?_)
  refine lv_aload_n hx hb dX12_digest_15 rfl (lv_at hl 1 rfl) ?_
  refine lv_aload_n hx hb dX12_digest_16 rfl (lv_at hl 1 rfl) ?_
  refine lv_iload_n hx hb dX12_digest_17 rfl (lv_at hl 0 rfl) ?_
  refine cr_i (va_runV (As := [.int 5]) (rest := [.ref (ad 0)]) ⟨hx, hb, hml, hown, hts⟩ (cm_tells l dC dI cs ad H_10 hP 5 (show 0 ≤ Int32.toInt 5 ∧ Int32.toInt 5 < 9 by first | omega | decide)) (cwV 1 hts gX12_digest_X12_tells rfl rfl rfl (by decide +kernel) ⟨Nat.le_of_ble_eq_true rfl, Nat.le_of_ble_eq_true rfl⟩) ⟨pb_c, va_recv hK hP (ci := 12) (q0 := 0) rfl rfl, pb_m hK⟩ rfl rfl hl.1 rfl (lv_room (Nat.le_of_ble_eq_true rfl)) dX12_digest_18 ⟨Nat.zero_le _, Nat.zero_le _⟩) hS (fun r_11 hw_11 locs hS => ?_)
  obtain rfl : r_11 = 0 := hw_11
  have hFc := va_free (wc := (wM cs ad 486695567)) hD hS hA [0, 1, 2, 3, 4, 5, 6] rfl
  refine va_callv (va_runV (As := [.int 0]) (rest := []) ⟨hx, hb, hml, hown, hts⟩ (cm_mix l dC dI cs ad 486695567 H_10 hP (hD.weaken (fun _ _ _ _ => trivial)) 0 15087562577 (by decide +kernel)) (cwV 1 hts gX12_digest_X12_mix rfl rfl rfl (by decide +kernel) ⟨Nat.le_of_ble_eq_true rfl, Nat.le_of_ble_eq_true rfl⟩) ⟨pb_c, va_recv hK hP (ci := 12) (q0 := 0) rfl rfl, pb_m hK⟩ rfl rfl hl.1 rfl (lv_room (Nat.le_of_ble_eq_true rfl)) dX12_digest_21 ⟨Nat.zero_le _, Nat.zero_le _⟩) hS (fun q _ h => hFc q h) hFc (fun u t H_12 locs ht hvm hw hB hz1 hk1 hS => ?_)
  have hP : va_P (dC, dI) vwCl (wM cs ad 15087562577) H_12 := by rw [← ht]; exact hB
  have hD : va_D (va_A (wM cs ad 0) s.heap.size) (wM cs ad 15087562577) := hD.set (p := 0) rfl
  refine lv_iinc (v := 6) (lv' := [(1, .int 6), (0, .ref (ad 0))]) hx hb dX12_digest_24 hl (k := 0) rfl (by decide) (by decide) rfl (fun ls hl => ?_)
  refine lv_goto (tgt := 9) hx hb dX12_digest_27 (by decide) ?_
  refine lv_iload_n hx hb dX12_digest_9 rfl (lv_at hl 0 rfl) ?_
  refine lv_bipush (v := 8) hx hb dX12_digest_10 (by decide) ?_
  refine lv_icmp_gt (tgt := 30) hx hb dX12_digest_12 (by decide) (fun c => absurd c (by decide)) (fun _ => ?_)
  refine lv_aload_n hx hb dX12_digest_15 rfl (lv_at hl 1 rfl) ?_
  refine lv_aload_n hx hb dX12_digest_16 rfl (lv_at hl 1 rfl) ?_
  refine lv_iload_n hx hb dX12_digest_17 rfl (lv_at hl 0 rfl) ?_
  refine cr_i (va_runV (As := [.int 6]) (rest := [.ref (ad 0)]) ⟨hx, hb, hml, hown, hts⟩ (cm_tells l dC dI cs ad H_12 hP 6 (show 0 ≤ Int32.toInt 6 ∧ Int32.toInt 6 < 9 by first | omega | decide)) (cwV 1 hts gX12_digest_X12_tells rfl rfl rfl (by decide +kernel) ⟨Nat.le_of_ble_eq_true rfl, Nat.le_of_ble_eq_true rfl⟩) ⟨pb_c, va_recv hK hP (ci := 12) (q0 := 0) rfl rfl, pb_m hK⟩ rfl rfl hl.1 rfl (lv_room (Nat.le_of_ble_eq_true rfl)) dX12_digest_18 ⟨Nat.zero_le _, Nat.zero_le _⟩) hS (fun r_13 hw_13 locs hS => ?_)
  obtain rfl : r_13 = 0 := hw_13
  have hFc := va_free (wc := (wM cs ad 15087562577)) hD hS hA [0, 1, 2, 3, 4, 5, 6] rfl
  refine va_callv (va_runV (As := [.int 0]) (rest := []) ⟨hx, hb, hml, hown, hts⟩ (cm_mix l dC dI cs ad 15087562577 H_12 hP (hD.weaken (fun _ _ _ _ => trivial)) 0 467714439887 (by decide +kernel)) (cwV 1 hts gX12_digest_X12_mix rfl rfl rfl (by decide +kernel) ⟨Nat.le_of_ble_eq_true rfl, Nat.le_of_ble_eq_true rfl⟩) ⟨pb_c, va_recv hK hP (ci := 12) (q0 := 0) rfl rfl, pb_m hK⟩ rfl rfl hl.1 rfl (lv_room (Nat.le_of_ble_eq_true rfl)) dX12_digest_21 ⟨Nat.zero_le _, Nat.zero_le _⟩) hS (fun q _ h => hFc q h) hFc (fun u t H_14 locs ht hvm hw hB hz1 hk1 hS => ?_)
  have hP : va_P (dC, dI) vwCl (wM cs ad 467714439887) H_14 := by rw [← ht]; exact hB
  have hD : va_D (va_A (wM cs ad 0) s.heap.size) (wM cs ad 467714439887) := hD.set (p := 0) rfl
  refine lv_iinc (v := 7) (lv' := [(1, .int 7), (0, .ref (ad 0))]) hx hb dX12_digest_24 hl (k := 0) rfl (by decide) (by decide) rfl (fun ls hl => ?_)
  refine lv_goto (tgt := 9) hx hb dX12_digest_27 (by decide) ?_
  refine lv_iload_n hx hb dX12_digest_9 rfl (lv_at hl 0 rfl) ?_
  refine lv_bipush (v := 8) hx hb dX12_digest_10 (by decide) ?_
  refine lv_icmp_gt (tgt := 30) hx hb dX12_digest_12 (by decide) (fun c => absurd c (by decide)) (fun _ => ?_)
  refine lv_aload_n hx hb dX12_digest_15 rfl (lv_at hl 1 rfl) ?_
  refine lv_aload_n hx hb dX12_digest_16 rfl (lv_at hl 1 rfl) ?_
  refine lv_iload_n hx hb dX12_digest_17 rfl (lv_at hl 0 rfl) ?_
  refine cr_i (va_runV (As := [.int 7]) (rest := [.ref (ad 0)]) ⟨hx, hb, hml, hown, hts⟩ (cm_tells l dC dI cs ad H_14 hP 7 (show 0 ≤ Int32.toInt 7 ∧ Int32.toInt 7 < 9 by first | omega | decide)) (cwV 1 hts gX12_digest_X12_tells rfl rfl rfl (by decide +kernel) ⟨Nat.le_of_ble_eq_true rfl, Nat.le_of_ble_eq_true rfl⟩) ⟨pb_c, va_recv hK hP (ci := 12) (q0 := 0) rfl rfl, pb_m hK⟩ rfl rfl hl.1 rfl (lv_room (Nat.le_of_ble_eq_true rfl)) dX12_digest_18 ⟨Nat.zero_le _, Nat.zero_le _⟩) hS (fun r_15 hw_15 locs hS => ?_)
  obtain rfl : r_15 = 0 := hw_15
  have hFc := va_free (wc := (wM cs ad 467714439887)) hD hS hA [0, 1, 2, 3, 4, 5, 6] rfl
  refine va_callv (va_runV (As := [.int 0]) (rest := []) ⟨hx, hb, hml, hown, hts⟩ (cm_mix l dC dI cs ad 467714439887 H_14 hP (hD.weaken (fun _ _ _ _ => trivial)) 0 14499147636497 (by decide +kernel)) (cwV 1 hts gX12_digest_X12_mix rfl rfl rfl (by decide +kernel) ⟨Nat.le_of_ble_eq_true rfl, Nat.le_of_ble_eq_true rfl⟩) ⟨pb_c, va_recv hK hP (ci := 12) (q0 := 0) rfl rfl, pb_m hK⟩ rfl rfl hl.1 rfl (lv_room (Nat.le_of_ble_eq_true rfl)) dX12_digest_21 ⟨Nat.zero_le _, Nat.zero_le _⟩) hS (fun q _ h => hFc q h) hFc (fun u t H_16 locs ht hvm hw hB hz1 hk1 hS => ?_)
  have hP : va_P (dC, dI) vwCl (wM cs ad 14499147636497) H_16 := by rw [← ht]; exact hB
  have hD : va_D (va_A (wM cs ad 0) s.heap.size) (wM cs ad 14499147636497) := hD.set (p := 0) rfl
  refine lv_iinc (v := 8) (lv' := [(1, .int 8), (0, .ref (ad 0))]) hx hb dX12_digest_24 hl (k := 0) rfl (by decide) (by decide) rfl (fun ls hl => ?_)
  refine lv_goto (tgt := 9) hx hb dX12_digest_27 (by decide) ?_
  refine lv_iload_n hx hb dX12_digest_9 rfl (lv_at hl 0 rfl) ?_
  refine lv_bipush (v := 8) hx hb dX12_digest_10 (by decide) ?_
  refine lv_icmp_gt (tgt := 30) hx hb dX12_digest_12 (by decide) (fun c => absurd c (by decide)) (fun _ => ?_)
  refine lv_aload_n hx hb dX12_digest_15 rfl (lv_at hl 1 rfl) ?_
  refine lv_aload_n hx hb dX12_digest_16 rfl (lv_at hl 1 rfl) ?_
  refine lv_iload_n hx hb dX12_digest_17 rfl (lv_at hl 0 rfl) ?_
  refine cr_i (va_runV (As := [.int 8]) (rest := [.ref (ad 0)]) ⟨hx, hb, hml, hown, hts⟩ (cm_tells l dC dI cs ad H_16 hP 8 (show 0 ≤ Int32.toInt 8 ∧ Int32.toInt 8 < 9 by first | omega | decide)) (cwV 1 hts gX12_digest_X12_tells rfl rfl rfl (by decide +kernel) ⟨Nat.le_of_ble_eq_true rfl, Nat.le_of_ble_eq_true rfl⟩) ⟨pb_c, va_recv hK hP (ci := 12) (q0 := 0) rfl rfl, pb_m hK⟩ rfl rfl hl.1 rfl (lv_room (Nat.le_of_ble_eq_true rfl)) dX12_digest_18 ⟨Nat.zero_le _, Nat.zero_le _⟩) hS (fun r_17 hw_17 locs hS => ?_)
  obtain rfl : r_17 = 0 := hw_17
  have hFc := va_free (wc := (wM cs ad 14499147636497)) hD hS hA [0, 1, 2, 3, 4, 5, 6] rfl
  refine va_callv (va_runV (As := [.int 0]) (rest := []) ⟨hx, hb, hml, hown, hts⟩ (cm_mix l dC dI cs ad 14499147636497 H_16 hP (hD.weaken (fun _ _ _ _ => trivial)) 0 449473576731407 (by decide +kernel)) (cwV 1 hts gX12_digest_X12_mix rfl rfl rfl (by decide +kernel) ⟨Nat.le_of_ble_eq_true rfl, Nat.le_of_ble_eq_true rfl⟩) ⟨pb_c, va_recv hK hP (ci := 12) (q0 := 0) rfl rfl, pb_m hK⟩ rfl rfl hl.1 rfl (lv_room (Nat.le_of_ble_eq_true rfl)) dX12_digest_21 ⟨Nat.zero_le _, Nat.zero_le _⟩) hS (fun q _ h => hFc q h) hFc (fun u t H_18 locs ht hvm hw hB hz1 hk1 hS => ?_)
  have hP : va_P (dC, dI) vwCl (wM cs ad 449473576731407) H_18 := by rw [← ht]; exact hB
  have hD : va_D (va_A (wM cs ad 0) s.heap.size) (wM cs ad 449473576731407) := hD.set (p := 0) rfl
  refine lv_iinc (v := 9) (lv' := [(1, .int 9), (0, .ref (ad 0))]) hx hb dX12_digest_24 hl (k := 0) rfl (by decide) (by decide) rfl (fun ls hl => ?_)
  refine lv_goto (tgt := 9) hx hb dX12_digest_27 (by decide) ?_
  refine lv_iload_n hx hb dX12_digest_9 rfl (lv_at hl 0 rfl) ?_
  refine lv_bipush (v := 8) hx hb dX12_digest_10 (by decide) ?_
  refine lv_icmp_gt (tgt := 30) hx hb dX12_digest_12 (by decide) (fun _ => ?_) (fun c => absurd (by decide) c)
  refine lv_aload_n hx hb dX12_digest_30 rfl (lv_at hl 1 rfl) ?_
  have hFc := va_free (wc := (wM cs ad 449473576731407)) hD hS hA [0, 1, 2, 3, 4, 5, 6] rfl
  refine va_callv (va_runV (As := []) (rest := []) ⟨hx, hb, hml, hown, hts⟩ (cm_mixTown l dC dI cs ad H_18 hP (hD.weaken (fun _ _ _ _ => trivial))) (cwV 0 hts gX12_digest_X12_mixTown rfl rfl rfl (by decide +kernel) ⟨Nat.le_of_ble_eq_true rfl, Nat.le_of_ble_eq_true rfl⟩) ⟨pb_c, va_recv hK hP (ci := 12) (q0 := 0) rfl rfl, pb_m hK⟩ rfl rfl hl.1 rfl (lv_room (Nat.le_of_ble_eq_true rfl)) dX12_digest_31 ⟨Nat.zero_le _, Nat.zero_le _⟩) hS (fun q _ h => hFc q h) hFc (fun u t H_19 locs ht hvm hw hB hz1 hk1 hS => ?_)
  have hP : va_P (dC, dI) vwCl (wM cs ad (-5056476749304206672)) H_19 := by rw [← ht]; exact hB
  have hD : va_D (va_A (wM cs ad 0) s.heap.size) (wM cs ad (-5056476749304206672)) := hD.set (p := 0) rfl
  refine lv_iconst (v := 0) hx hb dX12_digest_34 (by decide) ?_
  refine lv_istore_n (lv' := [(1, .int 0), (0, .ref (ad 0))]) hx hb dX12_digest_35 rfl hl (by decide) rfl (fun ls hl => ?_)
  refine lv_iload_n hx hb dX12_digest_36 rfl (lv_at hl 0 rfl) ?_
  refine lv_bipush (v := 6) hx hb dX12_digest_37 (by decide) ?_
  refine lv_icmp_ge (tgt := 99) hx hb dX12_digest_39 (by decide) (fun c => absurd c (by decide)) (fun _ => ?_)
  refine lv_aload_n hx hb dX12_digest_42 rfl (lv_at hl 1 rfl) ?_
  refine lv_aload_n hx hb dX12_digest_43 rfl (lv_at hl 1 rfl) ?_
  refine va_get (D := (dC, dI)) (ci := 12) (v := .ref (ad 2)) (C := RX12) (T := TX12) (N := 46) hx hb hts (by decide +kernel) hown hK hP 0 rfl rfl 3 (by decide) (hts (.fieldLink RX12 13 "DearLettersModel" "sizes" "[I") (by decide +kernel)) (fun _ h9 => h9) rfl dX12_digest_44 ?_
  refine lv_iload_n hx hb dX12_digest_47 rfl (lv_at hl 0 rfl) ?_
  refine va_iald hx hb hK hP 2 1 rfl rfl (show vp_in 0 6 by unfold vp_in; decide) dX12_digest_48 ?_
  refine lq_i (-9) (by first | rfl | decide) ?_
  refine lv_if_ge (tgt := 56) hx hb dX12_digest_49 (by decide) (fun c => absurd c (by decide)) (fun _ => ?_)
  refine lv_iconst (v := (-1)) hx hb dX12_digest_52 (by decide) ?_
  refine lv_goto (tgt := 62) hx hb dX12_digest_53 (by decide) ?_
  have hFc := va_free (wc := (wM cs ad (-5056476749304206672))) hD hS hA [0, 1, 2, 3, 4, 5, 6] rfl
  refine va_callv (va_runV (As := [.int (-1)]) (rest := []) ⟨hx, hb, hml, hown, hts⟩ (cm_mix l dC dI cs ad (-5056476749304206672) H_19 hP (hD.weaken (fun _ _ _ _ => trivial)) (-1) (-9176826638753993905) (by decide +kernel)) (cwV 1 hts gX12_digest_X12_mix rfl rfl rfl (by decide +kernel) ⟨Nat.le_of_ble_eq_true rfl, Nat.le_of_ble_eq_true rfl⟩) ⟨pb_c, va_recv hK hP (ci := 12) (q0 := 0) rfl rfl, pb_m hK⟩ rfl rfl hl.1 rfl (lv_room (Nat.le_of_ble_eq_true rfl)) dX12_digest_62 ⟨Nat.zero_le _, Nat.zero_le _⟩) hS (fun q _ h => hFc q h) hFc (fun u t H_20 locs ht hvm hw hB hz1 hk1 hS => ?_)
  have hP : va_P (dC, dI) vwCl (wM cs ad (-9176826638753993905)) H_20 := by rw [← ht]; exact hB
  have hD : va_D (va_A (wM cs ad 0) s.heap.size) (wM cs ad (-9176826638753993905)) := hD.set (p := 0) rfl
  refine lv_iconst (v := 0) hx hb dX12_digest_65 (by decide) ?_
  refine lv_istore_n (lv' := [(2, .int 0), (1, .int 0), (0, .ref (ad 0))]) hx hb dX12_digest_66 rfl hl (by decide) rfl (fun ls hl => ?_)
  refine lv_iload_n hx hb dX12_digest_67 rfl (lv_at hl 0 rfl) ?_
  refine lv_aload_n hx hb dX12_digest_68 rfl (lv_at hl 2 rfl) ?_
  refine va_get (D := (dC, dI)) (ci := 12) (v := .ref (ad 2)) (C := RX12) (T := TX12) (N := 46) hx hb hts (by decide +kernel) hown hK hP 0 rfl rfl 3 (by decide) (hts (.fieldLink RX12 13 "DearLettersModel" "sizes" "[I") (by decide +kernel)) (fun _ h9 => h9) rfl dX12_digest_69 ?_
  refine lv_iload_n hx hb dX12_digest_72 rfl (lv_at hl 1 rfl) ?_
  refine va_iald hx hb hK hP 2 1 rfl rfl (show vp_in 0 6 by unfold vp_in; decide) dX12_digest_73 ?_
  refine lq_i (-9) (by first | rfl | decide) ?_
  refine lv_icmp_ge (tgt := 93) hx hb dX12_digest_74 (by decide) (fun _ => ?_) (fun c => absurd (by decide) c)
  refine lv_iinc (v := 1) (lv' := [(1, .int 1), (2, .int 0), (0, .ref (ad 0))]) hx hb dX12_digest_93 hl (k := 1) rfl (by decide) (by decide) rfl (fun ls hl => ?_)
  refine lv_goto (tgt := 36) hx hb dX12_digest_96 (by decide) ?_
  refine lv_iload_n hx hb dX12_digest_36 rfl (lv_at hl 0 rfl) ?_
  refine lv_bipush (v := 6) hx hb dX12_digest_37 (by decide) ?_
  refine lv_icmp_ge (tgt := 99) hx hb dX12_digest_39 (by decide) (fun c => absurd c (by decide)) (fun _ => ?_)
  refine lv_aload_n hx hb dX12_digest_42 rfl (lv_at hl 2 rfl) ?_
  refine lv_aload_n hx hb dX12_digest_43 rfl (lv_at hl 2 rfl) ?_
  refine va_get (D := (dC, dI)) (ci := 12) (v := .ref (ad 2)) (C := RX12) (T := TX12) (N := 46) hx hb hts (by decide +kernel) hown hK hP 0 rfl rfl 3 (by decide) (hts (.fieldLink RX12 13 "DearLettersModel" "sizes" "[I") (by decide +kernel)) (fun _ h9 => h9) rfl dX12_digest_44 ?_
  refine lv_iload_n hx hb dX12_digest_47 rfl (lv_at hl 0 rfl) ?_
  refine va_iald hx hb hK hP 2 1 rfl rfl (show vp_in 1 6 by unfold vp_in; decide) dX12_digest_48 ?_
  refine lq_i (-9) (by first | rfl | decide) ?_
  refine lv_if_ge (tgt := 56) hx hb dX12_digest_49 (by decide) (fun c => absurd c (by decide)) (fun _ => ?_)
  refine lv_iconst (v := (-1)) hx hb dX12_digest_52 (by decide) ?_
  refine lv_goto (tgt := 62) hx hb dX12_digest_53 (by decide) ?_
  have hFc := va_free (wc := (wM cs ad (-9176826638753993905))) hD hS hA [0, 1, 2, 3, 4, 5, 6] rfl
  refine va_callv (va_runV (As := [.int (-1)]) (rest := []) ⟨hx, hb, hml, hown, hts⟩ (cm_mix l dC dI cs ad (-9176826638753993905) H_20 hP (hD.weaken (fun _ _ _ _ => trivial)) (-1) (-7780464695730536816) (by decide +kernel)) (cwV 1 hts gX12_digest_X12_mix rfl rfl rfl (by decide +kernel) ⟨Nat.le_of_ble_eq_true rfl, Nat.le_of_ble_eq_true rfl⟩) ⟨pb_c, va_recv hK hP (ci := 12) (q0 := 0) rfl rfl, pb_m hK⟩ rfl rfl hl.1 rfl (lv_room (Nat.le_of_ble_eq_true rfl)) dX12_digest_62 ⟨Nat.zero_le _, Nat.zero_le _⟩) hS (fun q _ h => hFc q h) hFc (fun u t H_21 locs ht hvm hw hB hz1 hk1 hS => ?_)
  have hP : va_P (dC, dI) vwCl (wM cs ad (-7780464695730536816)) H_21 := by rw [← ht]; exact hB
  have hD : va_D (va_A (wM cs ad 0) s.heap.size) (wM cs ad (-7780464695730536816)) := hD.set (p := 0) rfl
  refine lv_iconst (v := 0) hx hb dX12_digest_65 (by decide) ?_
  refine lv_istore_n (lv' := [(2, .int 0), (1, .int 1), (0, .ref (ad 0))]) hx hb dX12_digest_66 rfl hl (by decide) rfl (fun ls hl => ?_)
  refine lv_iload_n hx hb dX12_digest_67 rfl (lv_at hl 0 rfl) ?_
  refine lv_aload_n hx hb dX12_digest_68 rfl (lv_at hl 2 rfl) ?_
  refine va_get (D := (dC, dI)) (ci := 12) (v := .ref (ad 2)) (C := RX12) (T := TX12) (N := 46) hx hb hts (by decide +kernel) hown hK hP 0 rfl rfl 3 (by decide) (hts (.fieldLink RX12 13 "DearLettersModel" "sizes" "[I") (by decide +kernel)) (fun _ h9 => h9) rfl dX12_digest_69 ?_
  refine lv_iload_n hx hb dX12_digest_72 rfl (lv_at hl 1 rfl) ?_
  refine va_iald hx hb hK hP 2 1 rfl rfl (show vp_in 1 6 by unfold vp_in; decide) dX12_digest_73 ?_
  refine lq_i (-9) (by first | rfl | decide) ?_
  refine lv_icmp_ge (tgt := 93) hx hb dX12_digest_74 (by decide) (fun _ => ?_) (fun c => absurd (by decide) c)
  refine lv_iinc (v := 2) (lv' := [(1, .int 2), (2, .int 0), (0, .ref (ad 0))]) hx hb dX12_digest_93 hl (k := 1) rfl (by decide) (by decide) rfl (fun ls hl => ?_)
  refine lv_goto (tgt := 36) hx hb dX12_digest_96 (by decide) ?_
  refine lv_iload_n hx hb dX12_digest_36 rfl (lv_at hl 0 rfl) ?_
  refine lv_bipush (v := 6) hx hb dX12_digest_37 (by decide) ?_
  refine lv_icmp_ge (tgt := 99) hx hb dX12_digest_39 (by decide) (fun c => absurd c (by decide)) (fun _ => ?_)
  refine lv_aload_n hx hb dX12_digest_42 rfl (lv_at hl 2 rfl) ?_
  refine lv_aload_n hx hb dX12_digest_43 rfl (lv_at hl 2 rfl) ?_
  refine va_get (D := (dC, dI)) (ci := 12) (v := .ref (ad 2)) (C := RX12) (T := TX12) (N := 46) hx hb hts (by decide +kernel) hown hK hP 0 rfl rfl 3 (by decide) (hts (.fieldLink RX12 13 "DearLettersModel" "sizes" "[I") (by decide +kernel)) (fun _ h9 => h9) rfl dX12_digest_44 ?_
  refine lv_iload_n hx hb dX12_digest_47 rfl (lv_at hl 0 rfl) ?_
  refine va_iald hx hb hK hP 2 1 rfl rfl (show vp_in 2 6 by unfold vp_in; decide) dX12_digest_48 ?_
  refine lq_i (-9) (by first | rfl | decide) ?_
  refine lv_if_ge (tgt := 56) hx hb dX12_digest_49 (by decide) (fun c => absurd c (by decide)) (fun _ => ?_)
  refine lv_iconst (v := (-1)) hx hb dX12_digest_52 (by decide) ?_
  refine lv_goto (tgt := 62) hx hb dX12_digest_53 (by decide) ?_
  have hFc := va_free (wc := (wM cs ad (-7780464695730536816))) hD hS hA [0, 1, 2, 3, 4, 5, 6] rfl
  refine va_callv (va_runV (As := [.int (-1)]) (rest := []) ⟨hx, hb, hml, hown, hts⟩ (cm_mix l dC dI cs ad (-7780464695730536816) H_21 hP (hD.weaken (fun _ _ _ _ => trivial)) (-1) (-1386732609422470289) (by decide +kernel)) (cwV 1 hts gX12_digest_X12_mix rfl rfl rfl (by decide +kernel) ⟨Nat.le_of_ble_eq_true rfl, Nat.le_of_ble_eq_true rfl⟩) ⟨pb_c, va_recv hK hP (ci := 12) (q0 := 0) rfl rfl, pb_m hK⟩ rfl rfl hl.1 rfl (lv_room (Nat.le_of_ble_eq_true rfl)) dX12_digest_62 ⟨Nat.zero_le _, Nat.zero_le _⟩) hS (fun q _ h => hFc q h) hFc (fun u t H_22 locs ht hvm hw hB hz1 hk1 hS => ?_)
  have hP : va_P (dC, dI) vwCl (wM cs ad (-1386732609422470289)) H_22 := by rw [← ht]; exact hB
  have hD : va_D (va_A (wM cs ad 0) s.heap.size) (wM cs ad (-1386732609422470289)) := hD.set (p := 0) rfl
  refine lv_iconst (v := 0) hx hb dX12_digest_65 (by decide) ?_
  refine lv_istore_n (lv' := [(2, .int 0), (1, .int 2), (0, .ref (ad 0))]) hx hb dX12_digest_66 rfl hl (by decide) rfl (fun ls hl => ?_)
  refine lv_iload_n hx hb dX12_digest_67 rfl (lv_at hl 0 rfl) ?_
  refine lv_aload_n hx hb dX12_digest_68 rfl (lv_at hl 2 rfl) ?_
  refine va_get (D := (dC, dI)) (ci := 12) (v := .ref (ad 2)) (C := RX12) (T := TX12) (N := 46) hx hb hts (by decide +kernel) hown hK hP 0 rfl rfl 3 (by decide) (hts (.fieldLink RX12 13 "DearLettersModel" "sizes" "[I") (by decide +kernel)) (fun _ h9 => h9) rfl dX12_digest_69 ?_
  refine lv_iload_n hx hb dX12_digest_72 rfl (lv_at hl 1 rfl) ?_
  refine va_iald hx hb hK hP 2 1 rfl rfl (show vp_in 2 6 by unfold vp_in; decide) dX12_digest_73 ?_
  refine lq_i (-9) (by first | rfl | decide) ?_
  refine lv_icmp_ge (tgt := 93) hx hb dX12_digest_74 (by decide) (fun _ => ?_) (fun c => absurd (by decide) c)
  refine lv_iinc (v := 3) (lv' := [(1, .int 3), (2, .int 0), (0, .ref (ad 0))]) hx hb dX12_digest_93 hl (k := 1) rfl (by decide) (by decide) rfl (fun ls hl => ?_)
  refine lv_goto (tgt := 36) hx hb dX12_digest_96 (by decide) ?_
  refine lv_iload_n hx hb dX12_digest_36 rfl (lv_at hl 0 rfl) ?_
  refine lv_bipush (v := 6) hx hb dX12_digest_37 (by decide) ?_
  refine lv_icmp_ge (tgt := 99) hx hb dX12_digest_39 (by decide) (fun c => absurd c (by decide)) (fun _ => ?_)
  refine lv_aload_n hx hb dX12_digest_42 rfl (lv_at hl 2 rfl) ?_
  refine lv_aload_n hx hb dX12_digest_43 rfl (lv_at hl 2 rfl) ?_
  refine va_get (D := (dC, dI)) (ci := 12) (v := .ref (ad 2)) (C := RX12) (T := TX12) (N := 46) hx hb hts (by decide +kernel) hown hK hP 0 rfl rfl 3 (by decide) (hts (.fieldLink RX12 13 "DearLettersModel" "sizes" "[I") (by decide +kernel)) (fun _ h9 => h9) rfl dX12_digest_44 ?_
  refine lv_iload_n hx hb dX12_digest_47 rfl (lv_at hl 0 rfl) ?_
  refine va_iald hx hb hK hP 2 1 rfl rfl (show vp_in 3 6 by unfold vp_in; decide) dX12_digest_48 ?_
  refine lq_i (-9) (by first | rfl | decide) ?_
  refine lv_if_ge (tgt := 56) hx hb dX12_digest_49 (by decide) (fun c => absurd c (by decide)) (fun _ => ?_)
  refine lv_iconst (v := (-1)) hx hb dX12_digest_52 (by decide) ?_
  refine lv_goto (tgt := 62) hx hb dX12_digest_53 (by decide) ?_
  have hFc := va_free (wc := (wM cs ad (-1386732609422470289))) hD hS hA [0, 1, 2, 3, 4, 5, 6] rfl
  refine va_callv (va_runV (As := [.int (-1)]) (rest := []) ⟨hx, hb, hml, hown, hts⟩ (cm_mix l dC dI cs ad (-1386732609422470289) H_22 hP (hD.weaken (fun _ _ _ _ => trivial)) (-1) (-6095222744677475728) (by decide +kernel)) (cwV 1 hts gX12_digest_X12_mix rfl rfl rfl (by decide +kernel) ⟨Nat.le_of_ble_eq_true rfl, Nat.le_of_ble_eq_true rfl⟩) ⟨pb_c, va_recv hK hP (ci := 12) (q0 := 0) rfl rfl, pb_m hK⟩ rfl rfl hl.1 rfl (lv_room (Nat.le_of_ble_eq_true rfl)) dX12_digest_62 ⟨Nat.zero_le _, Nat.zero_le _⟩) hS (fun q _ h => hFc q h) hFc (fun u t H_23 locs ht hvm hw hB hz1 hk1 hS => ?_)
  have hP : va_P (dC, dI) vwCl (wM cs ad (-6095222744677475728)) H_23 := by rw [← ht]; exact hB
  have hD : va_D (va_A (wM cs ad 0) s.heap.size) (wM cs ad (-6095222744677475728)) := hD.set (p := 0) rfl
  refine lv_iconst (v := 0) hx hb dX12_digest_65 (by decide) ?_
  refine lv_istore_n (lv' := [(2, .int 0), (1, .int 3), (0, .ref (ad 0))]) hx hb dX12_digest_66 rfl hl (by decide) rfl (fun ls hl => ?_)
  refine lv_iload_n hx hb dX12_digest_67 rfl (lv_at hl 0 rfl) ?_
  refine lv_aload_n hx hb dX12_digest_68 rfl (lv_at hl 2 rfl) ?_
  refine va_get (D := (dC, dI)) (ci := 12) (v := .ref (ad 2)) (C := RX12) (T := TX12) (N := 46) hx hb hts (by decide +kernel) hown hK hP 0 rfl rfl 3 (by decide) (hts (.fieldLink RX12 13 "DearLettersModel" "sizes" "[I") (by decide +kernel)) (fun _ h9 => h9) rfl dX12_digest_69 ?_
  refine lv_iload_n hx hb dX12_digest_72 rfl (lv_at hl 1 rfl) ?_
  refine va_iald hx hb hK hP 2 1 rfl rfl (show vp_in 3 6 by unfold vp_in; decide) dX12_digest_73 ?_
  refine lq_i (-9) (by first | rfl | decide) ?_
  refine lv_icmp_ge (tgt := 93) hx hb dX12_digest_74 (by decide) (fun _ => ?_) (fun c => absurd (by decide) c)
  refine lv_iinc (v := 4) (lv' := [(1, .int 4), (2, .int 0), (0, .ref (ad 0))]) hx hb dX12_digest_93 hl (k := 1) rfl (by decide) (by decide) rfl (fun ls hl => ?_)
  refine lv_goto (tgt := 36) hx hb dX12_digest_96 (by decide) ?_
  refine lv_iload_n hx hb dX12_digest_36 rfl (lv_at hl 0 rfl) ?_
  refine lv_bipush (v := 6) hx hb dX12_digest_37 (by decide) ?_
  refine lv_icmp_ge (tgt := 99) hx hb dX12_digest_39 (by decide) (fun c => absurd c (by decide)) (fun _ => ?_)
  refine lv_aload_n hx hb dX12_digest_42 rfl (lv_at hl 2 rfl) ?_
  refine lv_aload_n hx hb dX12_digest_43 rfl (lv_at hl 2 rfl) ?_
  refine va_get (D := (dC, dI)) (ci := 12) (v := .ref (ad 2)) (C := RX12) (T := TX12) (N := 46) hx hb hts (by decide +kernel) hown hK hP 0 rfl rfl 3 (by decide) (hts (.fieldLink RX12 13 "DearLettersModel" "sizes" "[I") (by decide +kernel)) (fun _ h9 => h9) rfl dX12_digest_44 ?_
  refine lv_iload_n hx hb dX12_digest_47 rfl (lv_at hl 0 rfl) ?_
  refine va_iald hx hb hK hP 2 1 rfl rfl (show vp_in 4 6 by unfold vp_in; decide) dX12_digest_48 ?_
  refine lq_i (-9) (by first | rfl | decide) ?_
  refine lv_if_ge (tgt := 56) hx hb dX12_digest_49 (by decide) (fun c => absurd c (by decide)) (fun _ => ?_)
  refine lv_iconst (v := (-1)) hx hb dX12_digest_52 (by decide) ?_
  refine lv_goto (tgt := 62) hx hb dX12_digest_53 (by decide) ?_
  have hFc := va_free (wc := (wM cs ad (-6095222744677475728))) hD hS hA [0, 1, 2, 3, 4, 5, 6] rfl
  refine va_callv (va_runV (As := [.int (-1)]) (rest := []) ⟨hx, hb, hml, hown, hts⟩ (cm_mix l dC dI cs ad (-6095222744677475728) H_23 hP (hD.weaken (fun _ _ _ _ => trivial)) (-1) (-4484464347906231409) (by decide +kernel)) (cwV 1 hts gX12_digest_X12_mix rfl rfl rfl (by decide +kernel) ⟨Nat.le_of_ble_eq_true rfl, Nat.le_of_ble_eq_true rfl⟩) ⟨pb_c, va_recv hK hP (ci := 12) (q0 := 0) rfl rfl, pb_m hK⟩ rfl rfl hl.1 rfl (lv_room (Nat.le_of_ble_eq_true rfl)) dX12_digest_62 ⟨Nat.zero_le _, Nat.zero_le _⟩) hS (fun q _ h => hFc q h) hFc (fun u t H_24 locs ht hvm hw hB hz1 hk1 hS => ?_)
  have hP : va_P (dC, dI) vwCl (wM cs ad (-4484464347906231409)) H_24 := by rw [← ht]; exact hB
  have hD : va_D (va_A (wM cs ad 0) s.heap.size) (wM cs ad (-4484464347906231409)) := hD.set (p := 0) rfl
  refine lv_iconst (v := 0) hx hb dX12_digest_65 (by decide) ?_
  refine lv_istore_n (lv' := [(2, .int 0), (1, .int 4), (0, .ref (ad 0))]) hx hb dX12_digest_66 rfl hl (by decide) rfl (fun ls hl => ?_)
  refine lv_iload_n hx hb dX12_digest_67 rfl (lv_at hl 0 rfl) ?_
  refine lv_aload_n hx hb dX12_digest_68 rfl (lv_at hl 2 rfl) ?_
  refine va_get (D := (dC, dI)) (ci := 12) (v := .ref (ad 2)) (C := RX12) (T := TX12) (N := 46) hx hb hts (by decide +kernel) hown hK hP 0 rfl rfl 3 (by decide) (hts (.fieldLink RX12 13 "DearLettersModel" "sizes" "[I") (by decide +kernel)) (fun _ h9 => h9) rfl dX12_digest_69 ?_
  refine lv_iload_n hx hb dX12_digest_72 rfl (lv_at hl 1 rfl) ?_
  refine va_iald hx hb hK hP 2 1 rfl rfl (show vp_in 4 6 by unfold vp_in; decide) dX12_digest_73 ?_
  refine lq_i (-9) (by first | rfl | decide) ?_
  refine lv_icmp_ge (tgt := 93) hx hb dX12_digest_74 (by decide) (fun _ => ?_) (fun c => absurd (by decide) c)
  refine lv_iinc (v := 5) (lv' := [(1, .int 5), (2, .int 0), (0, .ref (ad 0))]) hx hb dX12_digest_93 hl (k := 1) rfl (by decide) (by decide) rfl (fun ls hl => ?_)
  refine lv_goto (tgt := 36) hx hb dX12_digest_96 (by decide) ?_
  refine lv_iload_n hx hb dX12_digest_36 rfl (lv_at hl 0 rfl) ?_
  refine lv_bipush (v := 6) hx hb dX12_digest_37 (by decide) ?_
  refine lv_icmp_ge (tgt := 99) hx hb dX12_digest_39 (by decide) (fun c => absurd c (by decide)) (fun _ => ?_)
  refine lv_aload_n hx hb dX12_digest_42 rfl (lv_at hl 2 rfl) ?_
  refine lv_aload_n hx hb dX12_digest_43 rfl (lv_at hl 2 rfl) ?_
  refine va_get (D := (dC, dI)) (ci := 12) (v := .ref (ad 2)) (C := RX12) (T := TX12) (N := 46) hx hb hts (by decide +kernel) hown hK hP 0 rfl rfl 3 (by decide) (hts (.fieldLink RX12 13 "DearLettersModel" "sizes" "[I") (by decide +kernel)) (fun _ h9 => h9) rfl dX12_digest_44 ?_
  refine lv_iload_n hx hb dX12_digest_47 rfl (lv_at hl 0 rfl) ?_
  refine va_iald hx hb hK hP 2 1 rfl rfl (show vp_in 5 6 by unfold vp_in; decide) dX12_digest_48 ?_
  refine lq_i (-9) (by first | rfl | decide) ?_
  refine lv_if_ge (tgt := 56) hx hb dX12_digest_49 (by decide) (fun c => absurd c (by decide)) (fun _ => ?_)
  refine lv_iconst (v := (-1)) hx hb dX12_digest_52 (by decide) ?_
  refine lv_goto (tgt := 62) hx hb dX12_digest_53 (by decide) ?_
  have hFc := va_free (wc := (wM cs ad (-4484464347906231409))) hD hS hA [0, 1, 2, 3, 4, 5, 6] rfl
  refine va_callv (va_runV (As := [.int (-1)]) (rest := []) ⟨hx, hb, hml, hown, hts⟩ (cm_mix l dC dI cs ad (-4484464347906231409) H_24 hP (hD.weaken (fun _ _ _ _ => trivial)) (-1) 8555557804583239248 (by decide +kernel)) (cwV 1 hts gX12_digest_X12_mix rfl rfl rfl (by decide +kernel) ⟨Nat.le_of_ble_eq_true rfl, Nat.le_of_ble_eq_true rfl⟩) ⟨pb_c, va_recv hK hP (ci := 12) (q0 := 0) rfl rfl, pb_m hK⟩ rfl rfl hl.1 rfl (lv_room (Nat.le_of_ble_eq_true rfl)) dX12_digest_62 ⟨Nat.zero_le _, Nat.zero_le _⟩) hS (fun q _ h => hFc q h) hFc (fun u t H_25 locs ht hvm hw hB hz1 hk1 hS => ?_)
  have hP : va_P (dC, dI) vwCl (wM cs ad 8555557804583239248) H_25 := by rw [← ht]; exact hB
  have hD : va_D (va_A (wM cs ad 0) s.heap.size) (wM cs ad 8555557804583239248) := hD.set (p := 0) rfl
  refine lv_iconst (v := 0) hx hb dX12_digest_65 (by decide) ?_
  refine lv_istore_n (lv' := [(2, .int 0), (1, .int 5), (0, .ref (ad 0))]) hx hb dX12_digest_66 rfl hl (by decide) rfl (fun ls hl => ?_)
  refine lv_iload_n hx hb dX12_digest_67 rfl (lv_at hl 0 rfl) ?_
  refine lv_aload_n hx hb dX12_digest_68 rfl (lv_at hl 2 rfl) ?_
  refine va_get (D := (dC, dI)) (ci := 12) (v := .ref (ad 2)) (C := RX12) (T := TX12) (N := 46) hx hb hts (by decide +kernel) hown hK hP 0 rfl rfl 3 (by decide) (hts (.fieldLink RX12 13 "DearLettersModel" "sizes" "[I") (by decide +kernel)) (fun _ h9 => h9) rfl dX12_digest_69 ?_
  refine lv_iload_n hx hb dX12_digest_72 rfl (lv_at hl 1 rfl) ?_
  refine va_iald hx hb hK hP 2 1 rfl rfl (show vp_in 5 6 by unfold vp_in; decide) dX12_digest_73 ?_
  refine lq_i (-9) (by first | rfl | decide) ?_
  refine lv_icmp_ge (tgt := 93) hx hb dX12_digest_74 (by decide) (fun _ => ?_) (fun c => absurd (by decide) c)
  refine lv_iinc (v := 6) (lv' := [(1, .int 6), (2, .int 0), (0, .ref (ad 0))]) hx hb dX12_digest_93 hl (k := 1) rfl (by decide) (by decide) rfl (fun ls hl => ?_)
  refine lv_goto (tgt := 36) hx hb dX12_digest_96 (by decide) ?_
  refine lv_iload_n hx hb dX12_digest_36 rfl (lv_at hl 0 rfl) ?_
  refine lv_bipush (v := 6) hx hb dX12_digest_37 (by decide) ?_
  refine lv_icmp_ge (tgt := 99) hx hb dX12_digest_39 (by decide) (fun _ => ?_) (fun c => absurd (by decide) c)
  refine lv_iconst (v := 0) hx hb dX12_digest_99 (by decide) ?_
  refine lv_istore_n (lv' := [(1, .int 0), (2, .int 0), (0, .ref (ad 0))]) hx hb dX12_digest_100 rfl hl (by decide) rfl (fun ls hl => ?_)
  refine lv_iload_n hx hb dX12_digest_101 rfl (lv_at hl 0 rfl) ?_
  refine lv_iconst (v := 4) hx hb dX12_digest_102 (by decide) ?_
  refine lv_icmp_ge (tgt := 168) hx hb dX12_digest_103 (by decide) (fun c => absurd c (by decide)) (fun _ => ?_)
  refine lv_aload_n hx hb dX12_digest_106 rfl (lv_at hl 2 rfl) ?_
  refine lv_aload_n hx hb dX12_digest_107 rfl (lv_at hl 2 rfl) ?_
  refine va_get (D := (dC, dI)) (ci := 12) (v := .ref (ad 4)) (C := RX12) (T := TX12) (N := 46) hx hb hts (by decide +kernel) hown hK hP 0 rfl rfl 6 (by decide) (hts (.fieldLink RX12 22 "DearLettersModel" "lengths" "[I") (by decide +kernel)) (fun _ h9 => h9) rfl dX12_digest_108 ?_
  refine lv_iload_n hx hb dX12_digest_111 rfl (lv_at hl 0 rfl) ?_
  refine va_iald hx hb hK hP 4 3 rfl rfl (show vp_in 0 4 by unfold vp_in; decide) dX12_digest_112 ?_
  refine lq_i (-9) (by first | rfl | decide) ?_
  refine lv_if_ge (tgt := 120) hx hb dX12_digest_113 (by decide) (fun c => absurd c (by decide)) (fun _ => ?_)
  refine lv_iconst (v := (-1)) hx hb dX12_digest_116 (by decide) ?_
  refine lv_goto (tgt := 126) hx hb dX12_digest_117 (by decide) ?_
  have hFc := va_free (wc := (wM cs ad 8555557804583239248)) hD hS hA [0, 1, 2, 3, 4, 5, 6] rfl
  refine va_callv (va_runV (As := [.int (-1)]) (rest := []) ⟨hx, hb, hml, hown, hts⟩ (cm_mix l dC dI cs ad 8555557804583239248 H_25 hP (hD.weaken (fun _ _ _ _ => trivial)) (-1) 6967874910146694063 (by decide +kernel)) (cwV 1 hts gX12_digest_X12_mix rfl rfl rfl (by decide +kernel) ⟨Nat.le_of_ble_eq_true rfl, Nat.le_of_ble_eq_true rfl⟩) ⟨pb_c, va_recv hK hP (ci := 12) (q0 := 0) rfl rfl, pb_m hK⟩ rfl rfl hl.1 rfl (lv_room (Nat.le_of_ble_eq_true rfl)) dX12_digest_126 ⟨Nat.zero_le _, Nat.zero_le _⟩) hS (fun q _ h => hFc q h) hFc (fun u t H_26 locs ht hvm hw hB hz1 hk1 hS => ?_)
  have hP : va_P (dC, dI) vwCl (wM cs ad 6967874910146694063) H_26 := by rw [← ht]; exact hB
  have hD : va_D (va_A (wM cs ad 0) s.heap.size) (wM cs ad 6967874910146694063) := hD.set (p := 0) rfl
  refine lv_iconst (v := 0) hx hb dX12_digest_129 (by decide) ?_
  refine lv_istore_n (lv' := [(2, .int 0), (1, .int 0), (0, .ref (ad 0))]) hx hb dX12_digest_130 rfl hl (by decide) rfl (fun ls hl => ?_)
  refine lv_iload_n hx hb dX12_digest_131 rfl (lv_at hl 0 rfl) ?_
  refine lv_aload_n hx hb dX12_digest_132 rfl (lv_at hl 2 rfl) ?_
  refine va_get (D := (dC, dI)) (ci := 12) (v := .ref (ad 4)) (C := RX12) (T := TX12) (N := 46) hx hb hts (by decide +kernel) hown hK hP 0 rfl rfl 6 (by decide) (hts (.fieldLink RX12 22 "DearLettersModel" "lengths" "[I") (by decide +kernel)) (fun _ h9 => h9) rfl dX12_digest_133 ?_
  refine lv_iload_n hx hb dX12_digest_136 rfl (lv_at hl 1 rfl) ?_
  refine va_iald hx hb hK hP 4 3 rfl rfl (show vp_in 0 4 by unfold vp_in; decide) dX12_digest_137 ?_
  refine lq_i (-9) (by first | rfl | decide) ?_
  refine lv_icmp_ge (tgt := 162) hx hb dX12_digest_138 (by decide) (fun _ => ?_) (fun c => absurd (by decide) c)
  refine lv_iinc (v := 1) (lv' := [(1, .int 1), (2, .int 0), (0, .ref (ad 0))]) hx hb dX12_digest_162 hl (k := 1) rfl (by decide) (by decide) rfl (fun ls hl => ?_)
  refine lv_goto (tgt := 101) hx hb dX12_digest_165 (by decide) ?_
  refine lv_iload_n hx hb dX12_digest_101 rfl (lv_at hl 0 rfl) ?_
  refine lv_iconst (v := 4) hx hb dX12_digest_102 (by decide) ?_
  refine lv_icmp_ge (tgt := 168) hx hb dX12_digest_103 (by decide) (fun c => absurd c (by decide)) (fun _ => ?_)
  refine lv_aload_n hx hb dX12_digest_106 rfl (lv_at hl 2 rfl) ?_
  refine lv_aload_n hx hb dX12_digest_107 rfl (lv_at hl 2 rfl) ?_
  refine va_get (D := (dC, dI)) (ci := 12) (v := .ref (ad 4)) (C := RX12) (T := TX12) (N := 46) hx hb hts (by decide +kernel) hown hK hP 0 rfl rfl 6 (by decide) (hts (.fieldLink RX12 22 "DearLettersModel" "lengths" "[I") (by decide +kernel)) (fun _ h9 => h9) rfl dX12_digest_108 ?_
  refine lv_iload_n hx hb dX12_digest_111 rfl (lv_at hl 0 rfl) ?_
  refine va_iald hx hb hK hP 4 3 rfl rfl (show vp_in 1 4 by unfold vp_in; decide) dX12_digest_112 ?_
  refine lq_i (-9) (by first | rfl | decide) ?_
  refine lv_if_ge (tgt := 120) hx hb dX12_digest_113 (by decide) (fun c => absurd c (by decide)) (fun _ => ?_)
  refine lv_iconst (v := (-1)) hx hb dX12_digest_116 (by decide) ?_
  refine lv_goto (tgt := 126) hx hb dX12_digest_117 (by decide) ?_
  have hFc := va_free (wc := (wM cs ad 6967874910146694063)) hD hS hA [0, 1, 2, 3, 4, 5, 6] rfl
  refine va_callv (va_runV (As := [.int (-1)]) (rest := []) ⟨hx, hb, hml, hown, hts⟩ (cm_mix l dC dI cs ad 6967874910146694063 H_26 hP (hD.weaken (fun _ _ _ _ => trivial)) (-1) (-5356806669967103440) (by decide +kernel)) (cwV 1 hts gX12_digest_X12_mix rfl rfl rfl (by decide +kernel) ⟨Nat.le_of_ble_eq_true rfl, Nat.le_of_ble_eq_true rfl⟩) ⟨pb_c, va_recv hK hP (ci := 12) (q0 := 0) rfl rfl, pb_m hK⟩ rfl rfl hl.1 rfl (lv_room (Nat.le_of_ble_eq_true rfl)) dX12_digest_126 ⟨Nat.zero_le _, Nat.zero_le _⟩) hS (fun q _ h => hFc q h) hFc (fun u t H_27 locs ht hvm hw hB hz1 hk1 hS => ?_)
  have hP : va_P (dC, dI) vwCl (wM cs ad (-5356806669967103440)) H_27 := by rw [← ht]; exact hB
  have hD : va_D (va_A (wM cs ad 0) s.heap.size) (wM cs ad (-5356806669967103440)) := hD.set (p := 0) rfl
  refine lv_iconst (v := 0) hx hb dX12_digest_129 (by decide) ?_
  refine lv_istore_n (lv' := [(2, .int 0), (1, .int 1), (0, .ref (ad 0))]) hx hb dX12_digest_130 rfl hl (by decide) rfl (fun ls hl => ?_)
  refine lv_iload_n hx hb dX12_digest_131 rfl (lv_at hl 0 rfl) ?_
  refine lv_aload_n hx hb dX12_digest_132 rfl (lv_at hl 2 rfl) ?_
  refine va_get (D := (dC, dI)) (ci := 12) (v := .ref (ad 4)) (C := RX12) (T := TX12) (N := 46) hx hb hts (by decide +kernel) hown hK hP 0 rfl rfl 6 (by decide) (hts (.fieldLink RX12 22 "DearLettersModel" "lengths" "[I") (by decide +kernel)) (fun _ h9 => h9) rfl dX12_digest_133 ?_
  refine lv_iload_n hx hb dX12_digest_136 rfl (lv_at hl 1 rfl) ?_
  refine va_iald hx hb hK hP 4 3 rfl rfl (show vp_in 1 4 by unfold vp_in; decide) dX12_digest_137 ?_
  refine lq_i (-9) (by first | rfl | decide) ?_
  refine lv_icmp_ge (tgt := 162) hx hb dX12_digest_138 (by decide) (fun _ => ?_) (fun c => absurd (by decide) c)
  refine lv_iinc (v := 2) (lv' := [(1, .int 2), (2, .int 0), (0, .ref (ad 0))]) hx hb dX12_digest_162 hl (k := 1) rfl (by decide) (by decide) rfl (fun ls hl => ?_)
  refine lv_goto (tgt := 101) hx hb dX12_digest_165 (by decide) ?_
  refine lv_iload_n hx hb dX12_digest_101 rfl (lv_at hl 0 rfl) ?_
  refine lv_iconst (v := 4) hx hb dX12_digest_102 (by decide) ?_
  refine lv_icmp_ge (tgt := 168) hx hb dX12_digest_103 (by decide) (fun c => absurd c (by decide)) (fun _ => ?_)
  refine lv_aload_n hx hb dX12_digest_106 rfl (lv_at hl 2 rfl) ?_
  refine lv_aload_n hx hb dX12_digest_107 rfl (lv_at hl 2 rfl) ?_
  refine va_get (D := (dC, dI)) (ci := 12) (v := .ref (ad 4)) (C := RX12) (T := TX12) (N := 46) hx hb hts (by decide +kernel) hown hK hP 0 rfl rfl 6 (by decide) (hts (.fieldLink RX12 22 "DearLettersModel" "lengths" "[I") (by decide +kernel)) (fun _ h9 => h9) rfl dX12_digest_108 ?_
  refine lv_iload_n hx hb dX12_digest_111 rfl (lv_at hl 0 rfl) ?_
  refine va_iald hx hb hK hP 4 3 rfl rfl (show vp_in 2 4 by unfold vp_in; decide) dX12_digest_112 ?_
  refine lq_i (-9) (by first | rfl | decide) ?_
  refine lv_if_ge (tgt := 120) hx hb dX12_digest_113 (by decide) (fun c => absurd c (by decide)) (fun _ => ?_)
  refine lv_iconst (v := (-1)) hx hb dX12_digest_116 (by decide) ?_
  refine lv_goto (tgt := 126) hx hb dX12_digest_117 (by decide) ?_
  have hFc := va_free (wc := (wM cs ad (-5356806669967103440))) hD hS hA [0, 1, 2, 3, 4, 5, 6] rfl
  refine va_callv (va_runV (As := [.int (-1)]) (rest := []) ⟨hx, hb, hml, hown, hts⟩ (cm_mix l dC dI cs ad (-5356806669967103440) H_27 hP (hD.weaken (fun _ _ _ _ => trivial)) (-1) (-40310105594242097) (by decide +kernel)) (cwV 1 hts gX12_digest_X12_mix rfl rfl rfl (by decide +kernel) ⟨Nat.le_of_ble_eq_true rfl, Nat.le_of_ble_eq_true rfl⟩) ⟨pb_c, va_recv hK hP (ci := 12) (q0 := 0) rfl rfl, pb_m hK⟩ rfl rfl hl.1 rfl (lv_room (Nat.le_of_ble_eq_true rfl)) dX12_digest_126 ⟨Nat.zero_le _, Nat.zero_le _⟩) hS (fun q _ h => hFc q h) hFc (fun u t H_28 locs ht hvm hw hB hz1 hk1 hS => ?_)
  have hP : va_P (dC, dI) vwCl (wM cs ad (-40310105594242097)) H_28 := by rw [← ht]; exact hB
  have hD : va_D (va_A (wM cs ad 0) s.heap.size) (wM cs ad (-40310105594242097)) := hD.set (p := 0) rfl
  refine lv_iconst (v := 0) hx hb dX12_digest_129 (by decide) ?_
  refine lv_istore_n (lv' := [(2, .int 0), (1, .int 2), (0, .ref (ad 0))]) hx hb dX12_digest_130 rfl hl (by decide) rfl (fun ls hl => ?_)
  refine lv_iload_n hx hb dX12_digest_131 rfl (lv_at hl 0 rfl) ?_
  refine lv_aload_n hx hb dX12_digest_132 rfl (lv_at hl 2 rfl) ?_
  refine va_get (D := (dC, dI)) (ci := 12) (v := .ref (ad 4)) (C := RX12) (T := TX12) (N := 46) hx hb hts (by decide +kernel) hown hK hP 0 rfl rfl 6 (by decide) (hts (.fieldLink RX12 22 "DearLettersModel" "lengths" "[I") (by decide +kernel)) (fun _ h9 => h9) rfl dX12_digest_133 ?_
  refine lv_iload_n hx hb dX12_digest_136 rfl (lv_at hl 1 rfl) ?_
  refine va_iald hx hb hK hP 4 3 rfl rfl (show vp_in 2 4 by unfold vp_in; decide) dX12_digest_137 ?_
  refine lq_i (-9) (by first | rfl | decide) ?_
  refine lv_icmp_ge (tgt := 162) hx hb dX12_digest_138 (by decide) (fun _ => ?_) (fun c => absurd (by decide) c)
  refine lv_iinc (v := 3) (lv' := [(1, .int 3), (2, .int 0), (0, .ref (ad 0))]) hx hb dX12_digest_162 hl (k := 1) rfl (by decide) (by decide) rfl (fun ls hl => ?_)
  refine lv_goto (tgt := 101) hx hb dX12_digest_165 (by decide) ?_
  refine lv_iload_n hx hb dX12_digest_101 rfl (lv_at hl 0 rfl) ?_
  refine lv_iconst (v := 4) hx hb dX12_digest_102 (by decide) ?_
  refine lv_icmp_ge (tgt := 168) hx hb dX12_digest_103 (by decide) (fun c => absurd c (by decide)) (fun _ => ?_)
  refine lv_aload_n hx hb dX12_digest_106 rfl (lv_at hl 2 rfl) ?_
  refine lv_aload_n hx hb dX12_digest_107 rfl (lv_at hl 2 rfl) ?_
  refine va_get (D := (dC, dI)) (ci := 12) (v := .ref (ad 4)) (C := RX12) (T := TX12) (N := 46) hx hb hts (by decide +kernel) hown hK hP 0 rfl rfl 6 (by decide) (hts (.fieldLink RX12 22 "DearLettersModel" "lengths" "[I") (by decide +kernel)) (fun _ h9 => h9) rfl dX12_digest_108 ?_
  refine lv_iload_n hx hb dX12_digest_111 rfl (lv_at hl 0 rfl) ?_
  refine va_iald hx hb hK hP 4 3 rfl rfl (show vp_in 3 4 by unfold vp_in; decide) dX12_digest_112 ?_
  refine lq_i (-9) (by first | rfl | decide) ?_
  refine lv_if_ge (tgt := 120) hx hb dX12_digest_113 (by decide) (fun c => absurd c (by decide)) (fun _ => ?_)
  refine lv_iconst (v := (-1)) hx hb dX12_digest_116 (by decide) ?_
  refine lv_goto (tgt := 126) hx hb dX12_digest_117 (by decide) ?_
  have hFc := va_free (wc := (wM cs ad (-40310105594242097))) hD hS hA [0, 1, 2, 3, 4, 5, 6] rfl
  refine va_callv (va_runV (As := [.int (-1)]) (rest := []) ⟨hx, hb, hml, hown, hts⟩ (cm_mix l dC dI cs ad (-40310105594242097) H_28 hP (hD.weaken (fun _ _ _ _ => trivial)) (-1) (-1249613273421505008) (by decide +kernel)) (cwV 1 hts gX12_digest_X12_mix rfl rfl rfl (by decide +kernel) ⟨Nat.le_of_ble_eq_true rfl, Nat.le_of_ble_eq_true rfl⟩) ⟨pb_c, va_recv hK hP (ci := 12) (q0 := 0) rfl rfl, pb_m hK⟩ rfl rfl hl.1 rfl (lv_room (Nat.le_of_ble_eq_true rfl)) dX12_digest_126 ⟨Nat.zero_le _, Nat.zero_le _⟩) hS (fun q _ h => hFc q h) hFc (fun u t H_29 locs ht hvm hw hB hz1 hk1 hS => ?_)
  have hP : va_P (dC, dI) vwCl (wM cs ad (-1249613273421505008)) H_29 := by rw [← ht]; exact hB
  have hD : va_D (va_A (wM cs ad 0) s.heap.size) (wM cs ad (-1249613273421505008)) := hD.set (p := 0) rfl
  refine lv_iconst (v := 0) hx hb dX12_digest_129 (by decide) ?_
  refine lv_istore_n (lv' := [(2, .int 0), (1, .int 3), (0, .ref (ad 0))]) hx hb dX12_digest_130 rfl hl (by decide) rfl (fun ls hl => ?_)
  refine lv_iload_n hx hb dX12_digest_131 rfl (lv_at hl 0 rfl) ?_
  refine lv_aload_n hx hb dX12_digest_132 rfl (lv_at hl 2 rfl) ?_
  refine va_get (D := (dC, dI)) (ci := 12) (v := .ref (ad 4)) (C := RX12) (T := TX12) (N := 46) hx hb hts (by decide +kernel) hown hK hP 0 rfl rfl 6 (by decide) (hts (.fieldLink RX12 22 "DearLettersModel" "lengths" "[I") (by decide +kernel)) (fun _ h9 => h9) rfl dX12_digest_133 ?_
  refine lv_iload_n hx hb dX12_digest_136 rfl (lv_at hl 1 rfl) ?_
  refine va_iald hx hb hK hP 4 3 rfl rfl (show vp_in 3 4 by unfold vp_in; decide) dX12_digest_137 ?_
  refine lq_i (-9) (by first | rfl | decide) ?_
  refine lv_icmp_ge (tgt := 162) hx hb dX12_digest_138 (by decide) (fun _ => ?_) (fun c => absurd (by decide) c)
  refine lv_iinc (v := 4) (lv' := [(1, .int 4), (2, .int 0), (0, .ref (ad 0))]) hx hb dX12_digest_162 hl (k := 1) rfl (by decide) (by decide) rfl (fun ls hl => ?_)
  refine lv_goto (tgt := 101) hx hb dX12_digest_165 (by decide) ?_
  refine lv_iload_n hx hb dX12_digest_101 rfl (lv_at hl 0 rfl) ?_
  refine lv_iconst (v := 4) hx hb dX12_digest_102 (by decide) ?_
  refine lv_icmp_ge (tgt := 168) hx hb dX12_digest_103 (by decide) (fun _ => ?_) (fun c => absurd (by decide) c)
  refine lv_aload_n hx hb dX12_digest_168 rfl (lv_at hl 2 rfl) ?_
  refine va_get (D := (dC, dI)) (ci := 12) (v := .long (-1249613273421505008)) (C := RX12) (T := TX12) (N := 46) hx hb hts (by decide +kernel) hown hK hP 0 rfl rfl 45 (by decide) (hts (.fieldLink RX12 314 "DearLettersModel" "h0" "J") (by decide +kernel)) (fun _ h9 => h9) rfl dX12_digest_169 ?_
  exact W.lret (v := (-1249613273421505008)) hx hb hr (fun t ht hW => ⟨⟨(-1249613273421505008), (), rfl, rfl, trivial⟩, hS.F ht⟩) hS.2.2 dX12_digest_172
