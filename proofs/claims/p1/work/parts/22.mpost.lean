def wMp (cs : Nat → ClassId) (ad : Nat → Nat) : va_W := (wM cs ad 0).set 0 (ad 0, .inr (12, [.int 0, .ref (ad 1), .int 0, .ref (ad 2), .ref (ad 3), .ref (ad 7), .ref (ad 4), .ref (ad 5), .int 0, .ref (ad 8), .ref (ad 9), .int 0, .ref (ad 10), .int 0, .int 0, .int 0, .ref (ad 11), .int 0, .int 0, .int 0, .int 0, .ref (ad 12), .ref (ad 13), .ref (ad 14), .ref (ad 15), .ref (ad 6), .ref (ad 16), .ref (ad 17), .ref (ad 18), .int 0, .int 0, .int 0, .int 0, .int 0, .int 0, .int 0, .int 0, .int 0, .int 1, .int 0, .ref (ad 19), .ref (ad 20), .int 0, .int 0, .int 0, .long 0]))
set_option maxHeartbeats 4000000 in
set_option maxRecDepth 100000 in
/-- ask(v, answer), beside pursesCount -/
theorem cm_askP (l : Launch) (dC : Nat → ClassId) (dI : Nat → Nat → Nat) (cs : Nat → ClassId) (ad : Nat → Nat) (H : Heap) (hP : va_P (dC, dI) vwCl (wMp cs ad) H) (hD0 : va_D (fun _ => True) (wMp cs ad)) (vv : Int32) (vans : Int32) : Met l yX12_ask wsX12_ask ({ frames := 0, cells := 0, slots := 0, locals := 0 }) (va_Pc [.ref (ad 0), .int vv, .int vans] (pb_P (dC, dI) vwCl (tyM cs) H)) (va_Qi (fun (z : Int32) (_ : Unit) => z = vans) (fun _ _ => True) (va_A (wMp cs ad) H.size)) 0 0 (va_A (wMp cs ad) H.size) := by
  refine Met.ofW (cc := cX12_ask) (maxL := 3) (ret := (some .int)) (by decide) rfl ?_
  intro p e s m args below meth c s₁ B hml hv
  obtain ⟨rfl, hh, hK⟩ := hv
  have hx := B.exec
  have hb := B.bytes
  have hr := B.returns
  have hts := atoms_spec (ws := wsX12_ask) B.pre
  have hown : s.vm.findClass RX12 = some m.cls := findClass_of_methodNamed B.named
  have hlocks := B.notSynchronized
  subst hh
  have hD := hD0.self (sz := s.heap.size)
  have hA : ∀ q : Nat, s.heap.size ≤ q → va_A (wMp cs ad) s.heap.size q := fun q h => Or.inr h
  have hS : va_S (va_A (wMp cs ad) s.heap.size) s.heap s.heap [] := va_S.rf
  have hl := lv_entry ([.ref (ad 0), .int vv, .int vans]) (n := 3) (Nat.le_of_ble_eq_true rfl)
  rw [lg_entry_eq]
  generalize (lg_sl ([.ref (ad 0), .int vv, .int vans]) ++ List.replicate (3 - (lg_sl ([.ref (ad 0), .int vv, .int vans])).length) Slot.unset).toArray = ls at hl ⊢
  have hl : lv_has ls 3 [(0, .ref (ad 0)), (1, .int vv), (2, .int vans)] := hl
  refine lv_aload_n hx hb dX12_ask_0 rfl (lv_at hl 0 rfl) ?_
  refine lv_iload_n hx hb dX12_ask_1 rfl (lv_at hl 1 rfl) ?_
  refine va_put (D := (dC, dI)) (ci := 12) (v := .int vv) (ty := .int) (C := RX12) (T := TX12) (N := 46) hx hb hts (by decide +kernel) tyX12 tyX12_ok nmX12 hown hK hP hD hS 0 rfl rfl 2 (by decide) (hts (.fieldLink RX12 74 "DearLettersModel" "asked" "I") (by decide +kernel)) (fun _ h9 => h9) rfl (by decide +kernel) (by first | rfl | decide) (by first | rfl | decide) (Nat.le_of_ble_eq_true rfl) dX12_ask_2 (fun H locs hP hD hS => ?_)
  refine lv_iload_n hx hb dX12_ask_5 rfl (lv_at hl 2 rfl) ?_
  exact W.iret (v := vans) hx hb hr (fun t ht hW => ⟨⟨vans, (), rfl, rfl, trivial⟩, hS.F ht⟩) hS.2.2 dX12_ask_6
theorem dX12_undo_0 : decode cX12_undo 0 = .ok (.iload_n 1, 1) := by decide +kernel
theorem dX12_undo_1 : decode cX12_undo 1 = .ok (.iconst 0, 1) := by decide +kernel
theorem dX12_undo_2 : decode cX12_undo 2 = .ok (.aload_n 0, 1) := by decide +kernel
theorem dX12_undo_3 : decode cX12_undo 3 = .ok (.getfield 151, 3) := by decide +kernel
theorem dX12_undo_6 : decode cX12_undo 6 = .ok (.invokestatic 77, 3) := by decide +kernel
theorem dX12_undo_9 : decode cX12_undo 9 = .ok (.ifCond .ne 5, 3) := by decide +kernel
theorem dX12_undo_14 : decode cX12_undo 14 = .ok (.aload_n 0, 1) := by decide +kernel
theorem dX12_undo_15 : decode cX12_undo 15 = .ok (.getfield 151, 3) := by decide +kernel
theorem dX12_undo_18 : decode cX12_undo 18 = .ok (.iload_n 1, 1) := by decide +kernel
theorem dX12_undo_19 : decode cX12_undo 19 = .ok (.isub, 1) := by decide +kernel
theorem dX12_undo_20 : decode cX12_undo 20 = .ok (.istore_n 2, 1) := by decide +kernel
theorem dX12_undo_21 : decode cX12_undo 21 = .ok (.aload_n 0, 1) := by decide +kernel
theorem dX12_undo_22 : decode cX12_undo 22 = .ok (.getfield 151, 3) := by decide +kernel
theorem dX12_undo_25 : decode cX12_undo 25 = .ok (.iconst 1, 1) := by decide +kernel
theorem dX12_undo_26 : decode cX12_undo 26 = .ok (.isub, 1) := by decide +kernel
theorem dX12_undo_27 : decode cX12_undo 27 = .ok (.istore_n 3, 1) := by decide +kernel
theorem dX12_undo_28 : decode cX12_undo 28 = .ok (.iload_n 3, 1) := by decide +kernel
theorem dX12_undo_29 : decode cX12_undo 29 = .ok (.iload_n 1, 1) := by decide +kernel
theorem dX12_undo_30 : decode cX12_undo 30 = .ok (.if_icmp .lt 136, 3) := by decide +kernel
theorem dX12_undo_166 : decode cX12_undo 166 = .ok (.aload_n 0, 1) := by decide +kernel
theorem dX12_undo_167 : decode cX12_undo 167 = .ok (.iload_n 1, 1) := by decide +kernel
theorem dX12_undo_168 : decode cX12_undo 168 = .ok (.putfield 151, 3) := by decide +kernel
theorem dX12_undo_171 : decode cX12_undo 171 = .ok (.iload_n 2, 1) := by decide +kernel
theorem dX12_undo_172 : decode cX12_undo 172 = .ok (.ireturn, 1) := by decide +kernel
theorem dX12_undo_12 : decode cX12_undo 12 = .ok (.iconst (-1), 1) := by decide +kernel
theorem dX12_undo_13 : decode cX12_undo 13 = .ok (.ireturn, 1) := by decide +kernel
set_option maxRecDepth 20000 in
theorem ggX12_undo_X12_in : GoodIn wsX12_undo wsX12_in := goodIn_r _ [7] (by decide +kernel) (by decide +kernel)
set_option maxRecDepth 20000 in
theorem gX12_undo_X12_in : GoodIn wsX12_undo (va_wsS RX12 77 yX12_in wsX12_in) := goodIn_app (goodIn_of _ (by decide +kernel)) ggX12_undo_X12_in
set_option maxHeartbeats 4000000 in
set_option maxRecDepth 100000 in
/-- undo -/
theorem pm_undo (l : Launch) (dC : Nat → ClassId) (dI : Nat → Nat → Nat) (cs : Nat → ClassId) (ad : Nat → Nat) (H : Heap) (hP : va_P (dC, dI) vwCl (wM cs ad 0) H) (hD0 : va_D (fun _ => True) (wM cs ad 0)) (vn : Int32) : Met l yX12_undo wsX12_undo ({ frames := 1, cells := 0, slots := 0, locals := 22 }) (va_Pc [.ref (ad 0), .int vn] (pb_P (dC, dI) vwCl (tyM cs) H)) (va_Qi (fun (z : Int32) (_ : Unit) => z = if 0 ≤ vn.toInt ∧ vn.toInt < 1 then 0 else (-1)) (fun _ _ => True) (va_A (wM cs ad 0) H.size)) 0 0 (va_A (wM cs ad 0) H.size) := by
  refine Met.ofW (cc := cX12_undo) (maxL := 7) (ret := (some .int)) (by decide) rfl ?_
  intro p e s m args below meth c s₁ B hml hv
  obtain ⟨rfl, hh, hK⟩ := hv
  have hx := B.exec
  have hb := B.bytes
  have hr := B.returns
  have hts := atoms_spec (ws := wsX12_undo) B.pre
  have hown : s.vm.findClass RX12 = some m.cls := findClass_of_methodNamed B.named
  have hlocks := B.notSynchronized
  subst hh
  have hD := hD0.self (sz := s.heap.size)
  have hA : ∀ q : Nat, s.heap.size ≤ q → va_A (wM cs ad 0) s.heap.size q := fun q h => Or.inr h
  have hS : va_S (va_A (wM cs ad 0) s.heap.size) s.heap s.heap [] := va_S.rf
  have hl := lv_entry ([.ref (ad 0), .int vn]) (n := 7) (Nat.le_of_ble_eq_true rfl)
  rw [lg_entry_eq]
  generalize (lg_sl ([.ref (ad 0), .int vn]) ++ List.replicate (7 - (lg_sl ([.ref (ad 0), .int vn])).length) Slot.unset).toArray = ls at hl ⊢
  have hl : lv_has ls 7 [(0, .ref (ad 0)), (1, .int vn)] := hl
  refine lv_iload_n hx hb dX12_undo_0 rfl (lv_at hl 1 rfl) ?_
  refine lv_iconst (v := 0) hx hb dX12_undo_1 (by decide) ?_
  refine lv_aload_n hx hb dX12_undo_2 rfl (lv_at hl 0 rfl) ?_
  refine va_get (D := (dC, dI)) (ci := 12) (v := .int 0) (C := RX12) (T := TX12) (N := 46) hx hb hts (by decide +kernel) hown hK hP 0 rfl rfl 17 (by decide) (hts (.fieldLink RX12 151 "DearLettersModel" "saleMany" "I") (by decide +kernel)) (fun _ h9 => h9) rfl dX12_undo_3 ?_
  refine cr_i (va_runS (As := [.int vn, .int 0, .int 0]) (rest := []) ⟨hx, hb, hml, hown, hts⟩ (cm_in l dC dI (tyM cs) s.heap vn 0 0) (va_cwS 3 hts gX12_undo_X12_in rfl rfl rfl (by decide +kernel) ⟨Nat.le_of_ble_eq_true rfl, Nat.le_of_ble_eq_true rfl⟩) ⟨pb_c, pb_m hK⟩ rfl rfl hl.1 rfl (lv_room (Nat.le_of_ble_eq_true rfl)) dX12_undo_6 ⟨Nat.zero_le _, Nat.zero_le _⟩) hS (fun r_1 hw_1 locs hS => ?_)
  obtain ⟨c_1, rfl⟩ | ⟨c_1, rfl⟩ := ic_of hw_1
  · have c_1 : 0 ≤ vn.toInt ∧ vn.toInt ≤ 0 := c_1
    refine lv_if_ne (tgt := 14) hx hb dX12_undo_9 (by decide) (fun _ => ?_) (fun c => absurd c (by decide))
    refine lv_aload_n hx hb dX12_undo_14 rfl (lv_at hl 0 rfl) ?_
    refine va_get (D := (dC, dI)) (ci := 12) (v := .int 0) (C := RX12) (T := TX12) (N := 46) hx hb hts (by decide +kernel) hown hK hP 0 rfl rfl 17 (by decide) (hts (.fieldLink RX12 151 "DearLettersModel" "saleMany" "I") (by decide +kernel)) (fun _ h9 => h9) rfl dX12_undo_15 ?_
    refine lv_iload_n hx hb dX12_undo_18 rfl (lv_at hl 1 rfl) ?_
    refine lv_isub hx hb dX12_undo_19 ?_
    refine lq_i 0 (by obtain rfl : vn = 0 := Int32.toInt_inj.mp (show vn.toInt = (0 : Int32).toInt from (by have h0 : (0 : Int32).toInt = 0 := rfl; omega)); rfl) ?_
    refine lv_istore_n (lv' := [(2, .int 0), (0, .ref (ad 0)), (1, .int vn)]) hx hb dX12_undo_20 rfl hl (by decide) rfl (fun ls hl => ?_)
    refine lv_aload_n hx hb dX12_undo_21 rfl (lv_at hl 1 rfl) ?_
    refine va_get (D := (dC, dI)) (ci := 12) (v := .int 0) (C := RX12) (T := TX12) (N := 46) hx hb hts (by decide +kernel) hown hK hP 0 rfl rfl 17 (by decide) (hts (.fieldLink RX12 151 "DearLettersModel" "saleMany" "I") (by decide +kernel)) (fun _ h9 => h9) rfl dX12_undo_22 ?_
    refine lv_iconst (v := 1) hx hb dX12_undo_25 (by decide) ?_
    refine lv_isub hx hb dX12_undo_26 ?_
    refine lq_i (-1) (by decide) ?_
    refine lv_istore_n (lv' := [(3, .int (-1)), (2, .int 0), (0, .ref (ad 0)), (1, .int vn)]) hx hb dX12_undo_27 rfl hl (by decide) rfl (fun ls hl => ?_)
    refine lv_iload_n hx hb dX12_undo_28 rfl (lv_at hl 0 rfl) ?_
    refine lv_iload_n hx hb dX12_undo_29 rfl (lv_at hl 3 rfl) ?_
    refine lv_icmp_lt (tgt := 166) hx hb dX12_undo_30 (by decide) (fun c_2 => ?_) (fun c_2 => by have c_2 : vn.toInt ≤ -1 := il_nlt c_2; exfalso; omega)
    have c_2 : -1 < vn.toInt := il_lt c_2
    refine lv_aload_n hx hb dX12_undo_166 rfl (lv_at hl 2 rfl) ?_
    refine lv_iload_n hx hb dX12_undo_167 rfl (lv_at hl 3 rfl) ?_
    refine va_put (D := (dC, dI)) (ci := 12) (v := .int vn) (ty := .int) (C := RX12) (T := TX12) (N := 46) hx hb hts (by decide +kernel) tyX12 tyX12_ok nmX12 hown hK hP hD hS 0 rfl rfl 17 (by decide) (hts (.fieldLink RX12 151 "DearLettersModel" "saleMany" "I") (by decide +kernel)) (fun _ h9 => h9) rfl (by decide +kernel) (by first | rfl | decide) (by first | rfl | decide) (Nat.le_of_ble_eq_true rfl) dX12_undo_168 (fun H locs hP hD hS => ?_)
    refine lv_iload_n hx hb dX12_undo_171 rfl (lv_at hl 1 rfl) ?_
    exact W.iret (v := 0) hx hb hr (fun t ht hW => ⟨⟨0, (), rfl, (by (split <;> first | rfl | (exfalso; omega) | (split <;> first | rfl | (exfalso; omega) | (split <;> first | rfl | (exfalso; omega))))), trivial⟩, hS.F ht⟩) hS.2.2 dX12_undo_172
  · have c_1 : ¬ (0 ≤ vn.toInt ∧ vn.toInt ≤ 0) := c_1
    refine lv_if_ne (tgt := 14) hx hb dX12_undo_9 (by decide) (fun c => absurd (by decide) c) (fun _ => ?_)
    refine lv_iconst (v := (-1)) hx hb dX12_undo_12 (by decide) ?_
    exact W.iret (v := (-1)) hx hb hr (fun t ht hW => ⟨⟨(-1), (), rfl, (by (split <;> first | rfl | (exfalso; omega) | (split <;> first | rfl | (exfalso; omega) | (split <;> first | rfl | (exfalso; omega))))), trivial⟩, hS.F ht⟩) hS.2.2 dX12_undo_13
theorem dX12_post_0 : decode cX12_post 0 = .ok (.iload_n 1, 1) := by decide +kernel
theorem dX12_post_1 : decode cX12_post 1 = .ok (.iconst 0, 1) := by decide +kernel
theorem dX12_post_2 : decode cX12_post 2 = .ok (.bipush 99, 2) := by decide +kernel
theorem dX12_post_4 : decode cX12_post 4 = .ok (.invokestatic 77, 3) := by decide +kernel
theorem dX12_post_7 : decode cX12_post 7 = .ok (.ifCond .ne 5, 3) := by decide +kernel
theorem dX12_post_12 : decode cX12_post 12 = .ok (.aload_n 0, 1) := by decide +kernel
theorem dX12_post_13 : decode cX12_post 13 = .ok (.iconst 1, 1) := by decide +kernel
theorem dX12_post_14 : decode cX12_post 14 = .ok (.putfield 241, 3) := by decide +kernel
theorem dX12_post_17 : decode cX12_post 17 = .ok (.iconst 0, 1) := by decide +kernel
theorem dX12_post_18 : decode cX12_post 18 = .ok (.istore_n 2, 1) := by decide +kernel
theorem dX12_post_19 : decode cX12_post 19 = .ok (.iconst 0, 1) := by decide +kernel
theorem dX12_post_20 : decode cX12_post 20 = .ok (.istore_n 3, 1) := by decide +kernel
theorem dX12_post_21 : decode cX12_post 21 = .ok (.iconst 0, 1) := by decide +kernel
theorem dX12_post_22 : decode cX12_post 22 = .ok (.istore 4, 2) := by decide +kernel
theorem dX12_post_24 : decode cX12_post 24 = .ok (.iload 4, 2) := by decide +kernel
theorem dX12_post_26 : decode cX12_post 26 = .ok (.aload_n 0, 1) := by decide +kernel
theorem dX12_post_27 : decode cX12_post 27 = .ok (.getfield 136, 3) := by decide +kernel
theorem dX12_post_30 : decode cX12_post 30 = .ok (.if_icmp .ge 76, 3) := by decide +kernel
theorem dX12_post_106 : decode cX12_post 106 = .ok (.aload_n 0, 1) := by decide +kernel
theorem dX12_post_107 : decode cX12_post 107 = .ok (.iload_n 3, 1) := by decide +kernel
theorem dX12_post_108 : decode cX12_post 108 = .ok (.iload_n 2, 1) := by decide +kernel
theorem dX12_post_109 : decode cX12_post 109 = .ok (.invokevirtual 103, 3) := by decide +kernel
theorem dX12_post_112 : decode cX12_post 112 = .ok (.ireturn, 1) := by decide +kernel
theorem dX12_post_10 : decode cX12_post 10 = .ok (.iconst (-1), 1) := by decide +kernel
theorem dX12_post_11 : decode cX12_post 11 = .ok (.ireturn, 1) := by decide +kernel
set_option maxRecDepth 20000 in
theorem ggX12_post_X12_in : GoodIn wsX12_post wsX12_in := goodIn_r _ [8] (by decide +kernel) (by decide +kernel)
set_option maxRecDepth 20000 in
theorem gX12_post_X12_in : GoodIn wsX12_post (va_wsS RX12 77 yX12_in wsX12_in) := goodIn_app (goodIn_of _ (by decide +kernel)) ggX12_post_X12_in
set_option maxRecDepth 20000 in
theorem ggX12_post_X12_ask : GoodIn wsX12_post wsX12_ask := goodIn_r _ [66, 67, 68, 69, 70, 71, 72, 73, 74, 75, 76, 77, 78, 79, 80, 81, 82, 83, 84, 85, 86, 87, 88, 89, 90, 91, 92, 93, 94, 95, 96, 97, 98, 99, 100, 101, 102, 103, 104, 105, 106, 107, 108, 109, 110, 111, 112, 113] (by decide +kernel) (by decide +kernel)
set_option maxRecDepth 20000 in
theorem gX12_post_X12_ask : GoodIn wsX12_post (wsV RX12 103 RX12 yX12_ask wsX12_ask) := goodIn_app (goodIn_of _ (by decide +kernel)) ggX12_post_X12_ask
set_option maxHeartbeats 4000000 in
set_option maxRecDepth 100000 in
/-- post -/
theorem pm_post (l : Launch) (dC : Nat → ClassId) (dI : Nat → Nat → Nat) (cs : Nat → ClassId) (ad : Nat → Nat) (H : Heap) (hP : va_P (dC, dI) vwCl (wM cs ad 0) H) (hD0 : va_D (fun _ => True) (wM cs ad 0)) (vv : Int32) : Met l yX12_post wsX12_post ({ frames := 1, cells := 0, slots := 0, locals := 22 }) (va_Pc [.ref (ad 0), .int vv] (pb_P (dC, dI) vwCl (tyM cs) H)) (va_Qi (fun (z : Int32) (_ : Unit) => z = if 0 ≤ vv.toInt ∧ vv.toInt < 100 then 0 else (-1)) (fun _ _ => True) (va_A (wM cs ad 0) H.size)) 0 0 (va_A (wM cs ad 0) H.size) := by
  refine Met.ofW (cc := cX12_post) (maxL := 6) (ret := (some .int)) (by decide) rfl ?_
  intro p e s m args below meth c s₁ B hml hv
  obtain ⟨rfl, hh, hK⟩ := hv
  have hx := B.exec
  have hb := B.bytes
  have hr := B.returns
  have hts := atoms_spec (ws := wsX12_post) B.pre
  have hown : s.vm.findClass RX12 = some m.cls := findClass_of_methodNamed B.named
  have hlocks := B.notSynchronized
  subst hh
  have hD := hD0.self (sz := s.heap.size)
  have hA : ∀ q : Nat, s.heap.size ≤ q → va_A (wM cs ad 0) s.heap.size q := fun q h => Or.inr h
  have hS : va_S (va_A (wM cs ad 0) s.heap.size) s.heap s.heap [] := va_S.rf
  have hl := lv_entry ([.ref (ad 0), .int vv]) (n := 6) (Nat.le_of_ble_eq_true rfl)
  rw [lg_entry_eq]
  generalize (lg_sl ([.ref (ad 0), .int vv]) ++ List.replicate (6 - (lg_sl ([.ref (ad 0), .int vv])).length) Slot.unset).toArray = ls at hl ⊢
  have hl : lv_has ls 6 [(0, .ref (ad 0)), (1, .int vv)] := hl
  refine lv_iload_n hx hb dX12_post_0 rfl (lv_at hl 1 rfl) ?_
  refine lv_iconst (v := 0) hx hb dX12_post_1 (by decide) ?_
  refine lv_bipush (v := 99) hx hb dX12_post_2 (by decide) ?_
  refine cr_i (va_runS (As := [.int vv, .int 0, .int 99]) (rest := []) ⟨hx, hb, hml, hown, hts⟩ (cm_in l dC dI (tyM cs) s.heap vv 0 99) (va_cwS 3 hts gX12_post_X12_in rfl rfl rfl (by decide +kernel) ⟨Nat.le_of_ble_eq_true rfl, Nat.le_of_ble_eq_true rfl⟩) ⟨pb_c, pb_m hK⟩ rfl rfl hl.1 rfl (lv_room (Nat.le_of_ble_eq_true rfl)) dX12_post_4 ⟨Nat.zero_le _, Nat.zero_le _⟩) hS (fun r_1 hw_1 locs hS => ?_)
  obtain ⟨c_1, rfl⟩ | ⟨c_1, rfl⟩ := ic_of hw_1
  · have c_1 : 0 ≤ vv.toInt ∧ vv.toInt ≤ 99 := c_1
    refine lv_if_ne (tgt := 12) hx hb dX12_post_7 (by decide) (fun _ => ?_) (fun c => absurd c (by decide))
    refine lv_aload_n hx hb dX12_post_12 rfl (lv_at hl 0 rfl) ?_
    refine lv_iconst (v := 1) hx hb dX12_post_13 (by decide) ?_
    refine va_put (D := (dC, dI)) (ci := 12) (v := .int 1) (ty := .boolean) (C := RX12) (T := TX12) (N := 46) hx hb hts (by decide +kernel) tyX12 tyX12_ok nmX12 hown hK hP hD hS 0 rfl rfl 38 (by decide) (hts (.fieldLink RX12 241 "DearLettersModel" "pursesCount" "Z") (by decide +kernel)) (fun _ h9 => h9) rfl (by decide +kernel) (by first | rfl | decide) (by first | rfl | decide) (Nat.le_of_ble_eq_true rfl) dX12_post_14 (fun H locs hP hD hS => ?_)
    have hP : va_P (dC, dI) vwCl (wMp cs ad) H := hP
    have hD : va_D (va_A (wM cs ad 0) s.heap.size) (wMp cs ad) := hD
    refine lv_iconst (v := 0) hx hb dX12_post_17 (by decide) ?_
    refine lv_istore_n (lv' := [(2, .int 0), (0, .ref (ad 0)), (1, .int vv)]) hx hb dX12_post_18 rfl hl (by decide) rfl (fun ls hl => ?_)
    refine lv_iconst (v := 0) hx hb dX12_post_19 (by decide) ?_
    refine lv_istore_n (lv' := [(3, .int 0), (2, .int 0), (0, .ref (ad 0)), (1, .int vv)]) hx hb dX12_post_20 rfl hl (by decide) rfl (fun ls hl => ?_)
    refine lv_iconst (v := 0) hx hb dX12_post_21 (by decide) ?_
    refine lv_istore (lv' := [(4, .int 0), (3, .int 0), (2, .int 0), (0, .ref (ad 0)), (1, .int vv)]) hx hb dX12_post_22 hl (by decide) rfl (fun ls hl => ?_)
    refine lv_iload hx hb dX12_post_24 (lv_at hl 0 rfl) ?_
    refine lv_aload_n hx hb dX12_post_26 rfl (lv_at hl 3 rfl) ?_
    refine va_get (D := (dC, dI)) (ci := 12) (v := .int 0) (C := RX12) (T := TX12) (N := 46) hx hb hts (by decide +kernel) hown hK hP 0 rfl rfl 8 (by decide) (hts (.fieldLink RX12 136 "DearLettersModel" "many" "I") (by decide +kernel)) (fun _ h9 => h9) rfl dX12_post_27 ?_
    refine lv_icmp_ge (tgt := 106) hx hb dX12_post_30 (by decide) (fun _ => ?_) (fun c => absurd (by decide) c)
    refine lv_aload_n hx hb dX12_post_106 rfl (lv_at hl 3 rfl) ?_
    refine lv_iload_n hx hb dX12_post_107 rfl (lv_at hl 1 rfl) ?_
    refine lv_iload_n hx hb dX12_post_108 rfl (lv_at hl 2 rfl) ?_
    have hFc := va_free (wc := (wMp cs ad)) hD hS hA [0, 1, 2, 3, 4, 5, 6] rfl
    refine va_calli (va_runV (As := [.int 0, .int 0]) (rest := []) ⟨hx, hb, hml, hown, hts⟩ (cm_askP l dC dI cs ad H hP (hD.weaken (fun _ _ _ _ => trivial)) 0 0) (cwV 2 hts gX12_post_X12_ask rfl rfl rfl (by decide +kernel) ⟨Nat.le_of_ble_eq_true rfl, Nat.le_of_ble_eq_true rfl⟩) ⟨pb_c, va_recv hK hP (ci := 12) (q0 := 0) rfl rfl, pb_m hK⟩ rfl rfl hl.1 rfl (lv_room (Nat.le_of_ble_eq_true rfl)) dX12_post_109 ⟨Nat.zero_le _, Nat.zero_le _⟩) hS (fun q _ h => hFc q h) hFc (fun r_2 u t H1 locs ht hvm hw_2 hB hz1 hk1 hS => ?_)
    obtain rfl : r_2 = 0 := hw_2
    exact W.iret (v := 0) hx hb hr (fun t ht hW => ⟨⟨0, (), rfl, (by (split <;> first | rfl | (exfalso; omega) | (split <;> first | rfl | (exfalso; omega) | (split <;> first | rfl | (exfalso; omega))))), trivial⟩, hS.F ht⟩) hS.2.2 dX12_post_112
  · have c_1 : ¬ (0 ≤ vv.toInt ∧ vv.toInt ≤ 99) := c_1
    refine lv_if_ne (tgt := 12) hx hb dX12_post_7 (by decide) (fun c => absurd (by decide) c) (fun _ => ?_)
    refine lv_iconst (v := (-1)) hx hb dX12_post_10 (by decide) ?_
    exact W.iret (v := (-1)) hx hb hr (fun t ht hW => ⟨⟨(-1), (), rfl, (by (split <;> first | rfl | (exfalso; omega) | (split <;> first | rfl | (exfalso; omega) | (split <;> first | rfl | (exfalso; omega))))), trivial⟩, hS.F ht⟩) hS.2.2 dX12_post_11
