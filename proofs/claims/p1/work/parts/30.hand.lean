theorem dJ7_fill_53178_0 : decode cJ7_fill_53178 0 = .ok (.iconst 0, 1) := by decide +kernel
theorem dJ7_fill_53178_1 : decode cJ7_fill_53178 1 = .ok (.istore_n 2, 1) := by decide +kernel
theorem dJ7_fill_53178_2 : decode cJ7_fill_53178 2 = .ok (.aload_n 0, 1) := by decide +kernel
theorem dJ7_fill_53178_3 : decode cJ7_fill_53178 3 = .ok (.arraylength, 1) := by decide +kernel
theorem dJ7_fill_53178_4 : decode cJ7_fill_53178 4 = .ok (.istore_n 3, 1) := by decide +kernel
theorem dJ7_fill_53178_5 : decode cJ7_fill_53178 5 = .ok (.iload_n 2, 1) := by decide +kernel
theorem dJ7_fill_53178_6 : decode cJ7_fill_53178 6 = .ok (.iload_n 3, 1) := by decide +kernel
theorem dJ7_fill_53178_7 : decode cJ7_fill_53178 7 = .ok (.if_icmp .ge 13, 3) := by decide +kernel
theorem dJ7_fill_53178_10 : decode cJ7_fill_53178 10 = .ok (.aload_n 0, 1) := by decide +kernel
theorem dJ7_fill_53178_11 : decode cJ7_fill_53178 11 = .ok (.iload_n 2, 1) := by decide +kernel
theorem dJ7_fill_53178_12 : decode cJ7_fill_53178 12 = .ok (.iload_n 1, 1) := by decide +kernel
theorem dJ7_fill_53178_13 : decode cJ7_fill_53178 13 = .ok (.iastore, 1) := by decide +kernel
theorem dJ7_fill_53178_14 : decode cJ7_fill_53178 14 = .ok (.iinc 2 1, 3) := by decide +kernel
theorem dJ7_fill_53178_17 : decode cJ7_fill_53178 17 = .ok (.goto (-12), 3) := by decide +kernel
theorem dJ7_fill_53178_20 : decode cJ7_fill_53178 20 = .ok (.return_, 1) := by decide +kernel
set_option maxHeartbeats 4000000 in
set_option maxRecDepth 100000 in
/-- Arrays.fill: it returns, nothing but the row is written -/
theorem cj_fillI (l : Launch) (dC : Nat → ClassId) (dI : Nat → Nat → Nat) (H : Heap) (a : Nat) (cA : ClassId) (f : Nat → Int32) (vv : Int32) (hP : va_P (dC, dI) vwCl [(a, .inl (cA, 40, .inl f))] H) (hD0 : va_D (fun _ => True) [(a, .inl (cA, 40, .inl f))]) : Met l yJ7_fill_53178 wsJ7_fill_53178 ({ frames := 0, cells := 0, slots := 0, locals := 0 }) (va_Pc [.ref a, .int vv] (pb_P (dC, dI) vwCl [(cA, .int)] H)) (va_Qv (fun (_ : Unit) => True) (fun _ _ => True) (va_A [(a, .inl (cA, 40, .inl f))] H.size)) 0 0 (va_A [(a, .inl (cA, 40, .inl f))] H.size) := by
  refine Met.ofW (cc := cJ7_fill_53178) (maxL := 4) (ret := none) (by decide) rfl ?_
  intro p e s m args below meth c s₁ B hml hv
  obtain ⟨rfl, hh, hK⟩ := hv
  have hx := B.exec
  have hb := B.bytes
  have hr := B.returns
  have hts := atoms_spec (ws := wsJ7_fill_53178) B.pre
  have hown : s.vm.findClass RJ7 = some m.cls := findClass_of_methodNamed B.named
  have hlocks := B.notSynchronized
  subst hh
  have hD := hD0.self (sz := s.heap.size)
  have hA : ∀ q : Nat, s.heap.size ≤ q → va_A [(a, .inl (cA, 40, .inl f))] s.heap.size q := fun q h => Or.inr h
  have hS : va_S (va_A [(a, .inl (cA, 40, .inl f))] s.heap.size) s.heap s.heap [] := va_S.rf
  have hl := lv_entry ([.ref a, .int vv]) (n := 4) (Nat.le_of_ble_eq_true rfl)
  rw [lg_entry_eq]
  generalize (lg_sl ([.ref a, .int vv]) ++ List.replicate (4 - (lg_sl ([.ref a, .int vv])).length) Slot.unset).toArray = ls at hl ⊢
  have hl : lv_has ls 4 [(0, .ref a), (1, .int vv)] := hl
  have loop : ∀ (k i : Nat) (g : Nat → Int32) (H : Heap) (locs : List Loc) (ls : Array Slot), i + k = 40 → va_P (dC, dI) vwCl [(a, .inl (cA, 40, .inl g))] H → va_D (va_A [(a, .inl (cA, 40, .inl f))] s.heap.size) [(a, .inl (cA, 40, .inl g))] → va_S (va_A [(a, .inl (cA, 40, .inl f))] s.heap.size) s.heap H locs → lv_has ls 4 [(2, .int (nI i)), (3, .int 40), (0, .ref a), (1, .int vv)] → W p l e (headSpec wsJ7_fill_53178 ({ frames := 0, cells := 0, slots := 0, locals := 0 })).room s m ([.ref a, .int vv] : List Value).toArray below meth c H locs 0 0 (MQ below (va_Qv (fun (_ : Unit) => True) (fun _ _ => True) (va_A [(a, .inl (cA, 40, .inl f))] s.heap.size)) ([.ref a, .int vv] : List Value).toArray s 0 0 (va_A [(a, .inl (cA, 40, .inl f))] s.heap.size)) (F0 m 5 ls []) := by
    intro k
    induction k with
    | zero =>
      intro i g H locs ls hi hP hD hS hl
      refine lv_iload_n hx hb dJ7_fill_53178_5 rfl (lv_at hl 0 rfl) ?_
      refine lv_iload_n hx hb dJ7_fill_53178_6 rfl (lv_at hl 1 rfl) ?_
      refine lv_icmp_ge (tgt := 20) hx hb dJ7_fill_53178_7 (by decide) (fun _ => ?_) (fun c => absurd (by rw [show i = 40 by omega]; decide) c)
      exact W.vret hx hb hr (fun t ht hW => ⟨⟨(), rfl, trivial, trivial⟩, hS.F ht⟩) hS.2.2 dJ7_fill_53178_20
    | succ k ih =>
      intro i g H locs ls hi hP hD hS hl
      have hlt : i < 40 := by omega
      refine lv_iload_n hx hb dJ7_fill_53178_5 rfl (lv_at hl 0 rfl) ?_
      refine lv_iload_n hx hb dJ7_fill_53178_6 rfl (lv_at hl 1 rfl) ?_
      refine lv_icmp_ge (tgt := 20) hx hb dJ7_fill_53178_7 (by decide) (fun c => absurd c (show ¬ (40 : Int32) ≤ nI i from nI_ge hlt (by decide))) (fun _ => ?_)
      refine lv_aload_n hx hb dJ7_fill_53178_10 rfl (lv_at hl 2 rfl) ?_
      refine lv_iload_n hx hb dJ7_fill_53178_11 rfl (lv_at hl 0 rfl) ?_
      refine lv_iload_n hx hb dJ7_fill_53178_12 rfl (lv_at hl 3 rfl) ?_
      refine va_iast hx hb hK hP hD hS 0 0 rfl rfl (vp_in_nI hlt (by decide)) dJ7_fill_53178_13 (fun H locs hP hD hS => ?_)
      refine lv_iinc (v := nI (i + 1)) (lv' := [(2, .int (nI (i + 1))), (3, .int 40), (0, .ref a), (1, .int vv)]) hx hb dJ7_fill_53178_14 hl (k := 0) rfl (nI_1 i) (by decide) rfl (fun ls hl => ?_)
      refine lv_goto (tgt := 5) hx hb dJ7_fill_53178_17 (by decide) ?_
      exact ih (i + 1) _ H locs ls (by omega) hP hD hS hl
  refine lv_iconst (v := 0) hx hb dJ7_fill_53178_0 (by decide) ?_
  refine lv_istore_n (lv' := [(2, .int 0), (0, .ref a), (1, .int vv)]) hx hb dJ7_fill_53178_1 rfl hl (by decide) rfl (fun ls hl => ?_)
  refine lv_aload_n hx hb dJ7_fill_53178_2 rfl (lv_at hl 1 rfl) ?_
  refine va_alen (v := 40) hx hb hK hP 0 0 rfl rfl rfl dJ7_fill_53178_3 ?_
  refine lv_istore_n (lv' := [(3, .int 40), (2, .int 0), (0, .ref a), (1, .int vv)]) hx hb dJ7_fill_53178_4 rfl hl (by decide) rfl (fun ls hl => ?_)
  exact loop 40 0 _ _ _ ls (by omega) hP hD hS (lv_sub hl [1, 0, 2, 3] rfl)
theorem dJ7_fill_031fb_0 : decode cJ7_fill_031fb 0 = .ok (.iconst 0, 1) := by decide +kernel
theorem dJ7_fill_031fb_1 : decode cJ7_fill_031fb 1 = .ok (.istore_n 2, 1) := by decide +kernel
theorem dJ7_fill_031fb_2 : decode cJ7_fill_031fb 2 = .ok (.aload_n 0, 1) := by decide +kernel
theorem dJ7_fill_031fb_3 : decode cJ7_fill_031fb 3 = .ok (.arraylength, 1) := by decide +kernel
theorem dJ7_fill_031fb_4 : decode cJ7_fill_031fb 4 = .ok (.istore_n 3, 1) := by decide +kernel
theorem dJ7_fill_031fb_5 : decode cJ7_fill_031fb 5 = .ok (.iload_n 2, 1) := by decide +kernel
theorem dJ7_fill_031fb_6 : decode cJ7_fill_031fb 6 = .ok (.iload_n 3, 1) := by decide +kernel
theorem dJ7_fill_031fb_7 : decode cJ7_fill_031fb 7 = .ok (.if_icmp .ge 13, 3) := by decide +kernel
theorem dJ7_fill_031fb_10 : decode cJ7_fill_031fb 10 = .ok (.aload_n 0, 1) := by decide +kernel
theorem dJ7_fill_031fb_11 : decode cJ7_fill_031fb 11 = .ok (.iload_n 2, 1) := by decide +kernel
theorem dJ7_fill_031fb_12 : decode cJ7_fill_031fb 12 = .ok (.iload_n 1, 1) := by decide +kernel
theorem dJ7_fill_031fb_13 : decode cJ7_fill_031fb 13 = .ok (.bastore, 1) := by decide +kernel
theorem dJ7_fill_031fb_14 : decode cJ7_fill_031fb 14 = .ok (.iinc 2 1, 3) := by decide +kernel
theorem dJ7_fill_031fb_17 : decode cJ7_fill_031fb 17 = .ok (.goto (-12), 3) := by decide +kernel
theorem dJ7_fill_031fb_20 : decode cJ7_fill_031fb 20 = .ok (.return_, 1) := by decide +kernel
set_option maxHeartbeats 4000000 in
set_option maxRecDepth 100000 in
/-- Arrays.fill: it returns, nothing but the row is written -/
theorem cj_fillB (l : Launch) (dC : Nat → ClassId) (dI : Nat → Nat → Nat) (H : Heap) (a : Nat) (cA : ClassId) (f : Nat → Int32) (vv : Int32) (hP : va_P (dC, dI) vwCl [(a, .inl (cA, 80, .inl f))] H) (hD0 : va_D (fun _ => True) [(a, .inl (cA, 80, .inl f))]) : Met l yJ7_fill_031fb wsJ7_fill_031fb ({ frames := 0, cells := 0, slots := 0, locals := 0 }) (va_Pc [.ref a, .int vv] (pb_P (dC, dI) vwCl [(cA, .byte)] H)) (va_Qv (fun (_ : Unit) => True) (fun _ _ => True) (va_A [(a, .inl (cA, 80, .inl f))] H.size)) 0 0 (va_A [(a, .inl (cA, 80, .inl f))] H.size) := by
  refine Met.ofW (cc := cJ7_fill_031fb) (maxL := 4) (ret := none) (by decide) rfl ?_
  intro p e s m args below meth c s₁ B hml hv
  obtain ⟨rfl, hh, hK⟩ := hv
  have hx := B.exec
  have hb := B.bytes
  have hr := B.returns
  have hts := atoms_spec (ws := wsJ7_fill_031fb) B.pre
  have hown : s.vm.findClass RJ7 = some m.cls := findClass_of_methodNamed B.named
  have hlocks := B.notSynchronized
  subst hh
  have hD := hD0.self (sz := s.heap.size)
  have hA : ∀ q : Nat, s.heap.size ≤ q → va_A [(a, .inl (cA, 80, .inl f))] s.heap.size q := fun q h => Or.inr h
  have hS : va_S (va_A [(a, .inl (cA, 80, .inl f))] s.heap.size) s.heap s.heap [] := va_S.rf
  have hl := lv_entry ([.ref a, .int vv]) (n := 4) (Nat.le_of_ble_eq_true rfl)
  rw [lg_entry_eq]
  generalize (lg_sl ([.ref a, .int vv]) ++ List.replicate (4 - (lg_sl ([.ref a, .int vv])).length) Slot.unset).toArray = ls at hl ⊢
  have hl : lv_has ls 4 [(0, .ref a), (1, .int vv)] := hl
  have loop : ∀ (k i : Nat) (g : Nat → Int32) (H : Heap) (locs : List Loc) (ls : Array Slot), i + k = 80 → va_P (dC, dI) vwCl [(a, .inl (cA, 80, .inl g))] H → va_D (va_A [(a, .inl (cA, 80, .inl f))] s.heap.size) [(a, .inl (cA, 80, .inl g))] → va_S (va_A [(a, .inl (cA, 80, .inl f))] s.heap.size) s.heap H locs → lv_has ls 4 [(2, .int (nI i)), (3, .int 80), (0, .ref a), (1, .int vv)] → W p l e (headSpec wsJ7_fill_031fb ({ frames := 0, cells := 0, slots := 0, locals := 0 })).room s m ([.ref a, .int vv] : List Value).toArray below meth c H locs 0 0 (MQ below (va_Qv (fun (_ : Unit) => True) (fun _ _ => True) (va_A [(a, .inl (cA, 80, .inl f))] s.heap.size)) ([.ref a, .int vv] : List Value).toArray s 0 0 (va_A [(a, .inl (cA, 80, .inl f))] s.heap.size)) (F0 m 5 ls []) := by
    intro k
    induction k with
    | zero =>
      intro i g H locs ls hi hP hD hS hl
      refine lv_iload_n hx hb dJ7_fill_031fb_5 rfl (lv_at hl 0 rfl) ?_
      refine lv_iload_n hx hb dJ7_fill_031fb_6 rfl (lv_at hl 1 rfl) ?_
      refine lv_icmp_ge (tgt := 20) hx hb dJ7_fill_031fb_7 (by decide) (fun _ => ?_) (fun c => absurd (by rw [show i = 80 by omega]; decide) c)
      exact W.vret hx hb hr (fun t ht hW => ⟨⟨(), rfl, trivial, trivial⟩, hS.F ht⟩) hS.2.2 dJ7_fill_031fb_20
    | succ k ih =>
      intro i g H locs ls hi hP hD hS hl
      have hlt : i < 80 := by omega
      refine lv_iload_n hx hb dJ7_fill_031fb_5 rfl (lv_at hl 0 rfl) ?_
      refine lv_iload_n hx hb dJ7_fill_031fb_6 rfl (lv_at hl 1 rfl) ?_
      refine lv_icmp_ge (tgt := 20) hx hb dJ7_fill_031fb_7 (by decide) (fun c => absurd c (show ¬ (80 : Int32) ≤ nI i from nI_ge hlt (by decide))) (fun _ => ?_)
      refine lv_aload_n hx hb dJ7_fill_031fb_10 rfl (lv_at hl 2 rfl) ?_
      refine lv_iload_n hx hb dJ7_fill_031fb_11 rfl (lv_at hl 0 rfl) ?_
      refine lv_iload_n hx hb dJ7_fill_031fb_12 rfl (lv_at hl 3 rfl) ?_
      refine va_bast hx hb hK hP hD hS 0 0 rfl rfl (vp_in_nI hlt (by decide)) dJ7_fill_031fb_13 (fun H locs hP hD hS => ?_)
      refine lv_iinc (v := nI (i + 1)) (lv' := [(2, .int (nI (i + 1))), (3, .int 80), (0, .ref a), (1, .int vv)]) hx hb dJ7_fill_031fb_14 hl (k := 0) rfl (nI_1 i) (by decide) rfl (fun ls hl => ?_)
      refine lv_goto (tgt := 5) hx hb dJ7_fill_031fb_17 (by decide) ?_
      exact ih (i + 1) _ H locs ls (by omega) hP hD hS hl
  refine lv_iconst (v := 0) hx hb dJ7_fill_031fb_0 (by decide) ?_
  refine lv_istore_n (lv' := [(2, .int 0), (0, .ref a), (1, .int vv)]) hx hb dJ7_fill_031fb_1 rfl hl (by decide) rfl (fun ls hl => ?_)
  refine lv_aload_n hx hb dJ7_fill_031fb_2 rfl (lv_at hl 1 rfl) ?_
  refine va_alen (v := 80) hx hb hK hP 0 0 rfl rfl rfl dJ7_fill_031fb_3 ?_
  refine lv_istore_n (lv' := [(3, .int 80), (2, .int 0), (0, .ref a), (1, .int vv)]) hx hb dJ7_fill_031fb_4 rfl hl (by decide) rfl (fun ls hl => ?_)
  exact loop 80 0 _ _ _ ls (by omega) hP hD hS (lv_sub hl [1, 0, 2, 3] rfl)
theorem dX6_beZeros_0 : decode cX6_beZeros 0 = .ok (.aload_n 0, 1) := by decide +kernel
theorem dX6_beZeros_1 : decode cX6_beZeros 1 = .ok (.getfield 9, 3) := by decide +kernel
theorem dX6_beZeros_4 : decode cX6_beZeros 4 = .ok (.iconst 0, 1) := by decide +kernel
theorem dX6_beZeros_5 : decode cX6_beZeros 5 = .ok (.invokestatic 19, 3) := by decide +kernel
theorem dX6_beZeros_8 : decode cX6_beZeros 8 = .ok (.aload_n 0, 1) := by decide +kernel
theorem dX6_beZeros_9 : decode cX6_beZeros 9 = .ok (.iload_n 1, 1) := by decide +kernel
theorem dX6_beZeros_10 : decode cX6_beZeros 10 = .ok (.putfield 15, 3) := by decide +kernel
theorem dX6_beZeros_13 : decode cX6_beZeros 13 = .ok (.return_, 1) := by decide +kernel
set_option maxRecDepth 20000 in
theorem ggX6_beZeros_J7_fill_53178 : GoodIn wsX6_beZeros wsJ7_fill_53178 := goodIn_r _ [6] (by decide +kernel) (by decide +kernel)
set_option maxRecDepth 20000 in
theorem gX6_beZeros_J7_fill_53178 : GoodIn wsX6_beZeros (va_wsS RX6 19 yJ7_fill_53178 wsJ7_fill_53178) := goodIn_app (goodIn_of _ (by decide +kernel)) ggX6_beZeros_J7_fill_53178
set_option maxHeartbeats 4000000 in
set_option maxRecDepth 100000 in
/-- the row is filled, its size set: nothing else is written -/
theorem cx_beZeros (l : Launch) (dC : Nat → ClassId) (dI : Nat → Nat → Nat) (H : Heap) (h0 a : Nat) (cA : ClassId) (f : Nat → Int32) (vn : Int32) (hP : va_P (dC, dI) vwCl [(h0, .inr (6, [.ref a, .int (-1)])), (a, .inl (cA, 40, .inl f))] H) (hD0 : va_D (fun _ => True) [(h0, .inr (6, [.ref a, .int (-1)])), (a, .inl (cA, 40, .inl f))]) : Met l yX6_beZeros wsX6_beZeros ({ frames := 1, cells := 0, slots := 0, locals := 23 }) (va_Pc [.ref h0, .int vn] (pb_P (dC, dI) vwCl [(cA, .int)] H)) (va_Qv (fun (_ : Unit) => True) (fun _ _ => True) (va_A [(h0, .inr (6, [.ref a, .int (-1)])), (a, .inl (cA, 40, .inl f))] H.size)) 0 0 (va_A [(h0, .inr (6, [.ref a, .int (-1)])), (a, .inl (cA, 40, .inl f))] H.size) := by
  refine Met.ofW (cc := cX6_beZeros) (maxL := 2) (ret := none) (by decide) rfl ?_
  intro p e s m args below meth c s₁ B hml hv
  obtain ⟨rfl, hh, hK⟩ := hv
  have hx := B.exec
  have hb := B.bytes
  have hr := B.returns
  have hts := atoms_spec (ws := wsX6_beZeros) B.pre
  have hown : s.vm.findClass RX6 = some m.cls := findClass_of_methodNamed B.named
  have hlocks := B.notSynchronized
  subst hh
  have hD := hD0.self (sz := s.heap.size)
  have hA : ∀ q : Nat, s.heap.size ≤ q → va_A [(h0, .inr (6, [.ref a, .int (-1)])), (a, .inl (cA, 40, .inl f))] s.heap.size q := fun q h => Or.inr h
  have hS : va_S (va_A [(h0, .inr (6, [.ref a, .int (-1)])), (a, .inl (cA, 40, .inl f))] s.heap.size) s.heap s.heap [] := va_S.rf
  have hl := lv_entry ([.ref h0, .int vn]) (n := 2) (Nat.le_of_ble_eq_true rfl)
  rw [lg_entry_eq]
  generalize (lg_sl ([.ref h0, .int vn]) ++ List.replicate (2 - (lg_sl ([.ref h0, .int vn])).length) Slot.unset).toArray = ls at hl ⊢
  have hl : lv_has ls 2 [(0, .ref h0), (1, .int vn)] := hl
  refine lv_aload_n hx hb dX6_beZeros_0 rfl (lv_at hl 0 rfl) ?_
  refine va_get (D := (dC, dI)) (ci := 6) (v := .ref a) (C := RX6) (T := TX6) (N := 2) hx hb hts (by decide +kernel) hown hK hP 0 rfl rfl 0 (by decide) (hts (.fieldLink RX6 9 "DearLetters$Row" "places" "[I") (by decide +kernel)) (fun _ h9 => h9) rfl dX6_beZeros_1 ?_
  refine lv_iconst (v := 0) hx hb dX6_beZeros_4 (by decide) ?_
  have hFc := va_free (wc := [(a, .inl (cA, 40, .inl f))]) hD hS hA [1] rfl
  refine va_callv (va_runS (As := [.ref a, .int 0]) (rest := []) ⟨hx, hb, hml, hown, hts⟩ (cj_fillI l dC dI s.heap a cA f 0 (hP.sub [1] rfl) (hD0.sub [1] (by decide) rfl)) (va_cwS 2 hts gX6_beZeros_J7_fill_53178 rfl rfl rfl (by decide +kernel) ⟨Nat.le_of_ble_eq_true rfl, Nat.le_of_ble_eq_true rfl⟩) ⟨pb_c, pb_m hK⟩ rfl rfl hl.1 rfl (lv_room (Nat.le_of_ble_eq_true rfl)) dX6_beZeros_5 ⟨Nat.zero_le _, Nat.zero_le _⟩) hS (fun q _ h => hFc q h) hFc (fun u t H1 locs ht hvm hw hB hz1 hk1 hS => ?_)
  obtain ⟨hP, hD⟩ := va_rest (wr := [(h0, .inr (6, [.ref a, .int (-1)]))]) hP hD [1] [0] rfl rfl (by decide) (by decide) hk1 hFc
  refine lv_aload_n hx hb dX6_beZeros_8 rfl (lv_at hl 0 rfl) ?_
  refine lv_iload_n hx hb dX6_beZeros_9 rfl (lv_at hl 1 rfl) ?_
  refine va_put (D := (dC, dI)) (ci := 6) (v := .int vn) (ty := .int) (C := RX6) (T := TX6) (N := 2) hx hb hts (by decide +kernel) tyX6 tyX6_ok nmX6 hown hK hP hD hS 0 rfl rfl 1 (by decide) (hts (.fieldLink RX6 15 "DearLetters$Row" "size" "I") (by decide +kernel)) (fun _ h9 => h9) rfl (by decide +kernel) rfl rfl (Nat.le_of_ble_eq_true rfl) dX6_beZeros_10 (fun H locs hP hD hS => ?_)
  exact W.vret hx hb hr (fun t ht hW => ⟨⟨(), rfl, trivial, trivial⟩, hS.F ht⟩) hS.2.2 dX6_beZeros_13
theorem dX9_beBlanks_0 : decode cX9_beBlanks 0 = .ok (.aload_n 0, 1) := by decide +kernel
theorem dX9_beBlanks_1 : decode cX9_beBlanks 1 = .ok (.getfield 9, 3) := by decide +kernel
theorem dX9_beBlanks_4 : decode cX9_beBlanks 4 = .ok (.bipush 32, 2) := by decide +kernel
theorem dX9_beBlanks_6 : decode cX9_beBlanks 6 = .ok (.invokestatic 19, 3) := by decide +kernel
theorem dX9_beBlanks_9 : decode cX9_beBlanks 9 = .ok (.aload_n 0, 1) := by decide +kernel
theorem dX9_beBlanks_10 : decode cX9_beBlanks 10 = .ok (.iload_n 1, 1) := by decide +kernel
theorem dX9_beBlanks_11 : decode cX9_beBlanks 11 = .ok (.putfield 15, 3) := by decide +kernel
theorem dX9_beBlanks_14 : decode cX9_beBlanks 14 = .ok (.return_, 1) := by decide +kernel
set_option maxRecDepth 20000 in
theorem ggX9_beBlanks_J7_fill_031fb : GoodIn wsX9_beBlanks wsJ7_fill_031fb := goodIn_r _ [6] (by decide +kernel) (by decide +kernel)
set_option maxRecDepth 20000 in
theorem gX9_beBlanks_J7_fill_031fb : GoodIn wsX9_beBlanks (va_wsS RX9 19 yJ7_fill_031fb wsJ7_fill_031fb) := goodIn_app (goodIn_of _ (by decide +kernel)) ggX9_beBlanks_J7_fill_031fb
set_option maxHeartbeats 4000000 in
set_option maxRecDepth 100000 in
/-- the row is filled, its size set: nothing else is written -/
theorem cx_beBlanks (l : Launch) (dC : Nat → ClassId) (dI : Nat → Nat → Nat) (H : Heap) (h0 a : Nat) (cA : ClassId) (f : Nat → Int32) (vn : Int32) (hP : va_P (dC, dI) vwCl [(h0, .inr (9, [.ref a, .int (-1)])), (a, .inl (cA, 80, .inl f))] H) (hD0 : va_D (fun _ => True) [(h0, .inr (9, [.ref a, .int (-1)])), (a, .inl (cA, 80, .inl f))]) : Met l yX9_beBlanks wsX9_beBlanks ({ frames := 1, cells := 0, slots := 0, locals := 23 }) (va_Pc [.ref h0, .int vn] (pb_P (dC, dI) vwCl [(cA, .byte)] H)) (va_Qv (fun (_ : Unit) => True) (fun _ _ => True) (va_A [(h0, .inr (9, [.ref a, .int (-1)])), (a, .inl (cA, 80, .inl f))] H.size)) 0 0 (va_A [(h0, .inr (9, [.ref a, .int (-1)])), (a, .inl (cA, 80, .inl f))] H.size) := by
  refine Met.ofW (cc := cX9_beBlanks) (maxL := 2) (ret := none) (by decide) rfl ?_
  intro p e s m args below meth c s₁ B hml hv
  obtain ⟨rfl, hh, hK⟩ := hv
  have hx := B.exec
  have hb := B.bytes
  have hr := B.returns
  have hts := atoms_spec (ws := wsX9_beBlanks) B.pre
  have hown : s.vm.findClass RX9 = some m.cls := findClass_of_methodNamed B.named
  have hlocks := B.notSynchronized
  subst hh
  have hD := hD0.self (sz := s.heap.size)
  have hA : ∀ q : Nat, s.heap.size ≤ q → va_A [(h0, .inr (9, [.ref a, .int (-1)])), (a, .inl (cA, 80, .inl f))] s.heap.size q := fun q h => Or.inr h
  have hS : va_S (va_A [(h0, .inr (9, [.ref a, .int (-1)])), (a, .inl (cA, 80, .inl f))] s.heap.size) s.heap s.heap [] := va_S.rf
  have hl := lv_entry ([.ref h0, .int vn]) (n := 2) (Nat.le_of_ble_eq_true rfl)
  rw [lg_entry_eq]
  generalize (lg_sl ([.ref h0, .int vn]) ++ List.replicate (2 - (lg_sl ([.ref h0, .int vn])).length) Slot.unset).toArray = ls at hl ⊢
  have hl : lv_has ls 2 [(0, .ref h0), (1, .int vn)] := hl
  refine lv_aload_n hx hb dX9_beBlanks_0 rfl (lv_at hl 0 rfl) ?_
  refine va_get (D := (dC, dI)) (ci := 9) (v := .ref a) (C := RX9) (T := TX9) (N := 2) hx hb hts (by decide +kernel) hown hK hP 0 rfl rfl 0 (by decide) (hts (.fieldLink RX9 9 "DearLetters$Text" "bytes" "[B") (by decide +kernel)) (fun _ h9 => h9) rfl dX9_beBlanks_1 ?_
  refine lv_bipush (v := 32) hx hb dX9_beBlanks_4 (by decide) ?_
  have hFc := va_free (wc := [(a, .inl (cA, 80, .inl f))]) hD hS hA [1] rfl
  refine va_callv (va_runS (As := [.ref a, .int 32]) (rest := []) ⟨hx, hb, hml, hown, hts⟩ (cj_fillB l dC dI s.heap a cA f 32 (hP.sub [1] rfl) (hD0.sub [1] (by decide) rfl)) (va_cwS 2 hts gX9_beBlanks_J7_fill_031fb rfl rfl rfl (by decide +kernel) ⟨Nat.le_of_ble_eq_true rfl, Nat.le_of_ble_eq_true rfl⟩) ⟨pb_c, pb_m hK⟩ rfl rfl hl.1 rfl (lv_room (Nat.le_of_ble_eq_true rfl)) dX9_beBlanks_6 ⟨Nat.zero_le _, Nat.zero_le _⟩) hS (fun q _ h => hFc q h) hFc (fun u t H1 locs ht hvm hw hB hz1 hk1 hS => ?_)
  obtain ⟨hP, hD⟩ := va_rest (wr := [(h0, .inr (9, [.ref a, .int (-1)]))]) hP hD [1] [0] rfl rfl (by decide) (by decide) hk1 hFc
  refine lv_aload_n hx hb dX9_beBlanks_9 rfl (lv_at hl 0 rfl) ?_
  refine lv_iload_n hx hb dX9_beBlanks_10 rfl (lv_at hl 1 rfl) ?_
  refine va_put (D := (dC, dI)) (ci := 9) (v := .int vn) (ty := .int) (C := RX9) (T := TX9) (N := 2) hx hb hts (by decide +kernel) tyX9 tyX9_ok nmX9 hown hK hP hD hS 0 rfl rfl 1 (by decide) (hts (.fieldLink RX9 15 "DearLetters$Text" "size" "I") (by decide +kernel)) (fun _ h9 => h9) rfl (by decide +kernel) rfl rfl (Nat.le_of_ble_eq_true rfl) dX9_beBlanks_11 (fun H locs hP hD hS => ?_)
  exact W.vret hx hb hr (fun t ht hW => ⟨⟨(), rfl, trivial, trivial⟩, hS.F ht⟩) hS.2.2 dX9_beBlanks_14
theorem dX11_row_0 : decode cX11_row 0 = .ok (.iload_n 1, 1) := by decide +kernel
theorem dX11_row_1 : decode cX11_row 1 = .ok (.invokestatic 69, 3) := by decide +kernel
theorem dX11_row_4 : decode cX11_row 4 = .ok (.ifCond .eq 9, 3) := by decide +kernel
theorem dX11_row_7 : decode cX11_row 7 = .ok (.iload_n 2, 1) := by decide +kernel
theorem dX11_row_8 : decode cX11_row 8 = .ok (.bipush 40, 2) := by decide +kernel
theorem dX11_row_10 : decode cX11_row 10 = .ok (.if_icmp .le 5, 3) := by decide +kernel
theorem dX11_row_15 : decode cX11_row 15 = .ok (.iload_n 2, 1) := by decide +kernel
theorem dX11_row_16 : decode cX11_row 16 = .ok (.ifCond .ge 9, 3) := by decide +kernel
theorem dX11_row_25 : decode cX11_row 25 = .ok (.aload_n 0, 1) := by decide +kernel
theorem dX11_row_26 : decode cX11_row 26 = .ok (.getfield 11, 3) := by decide +kernel
theorem dX11_row_29 : decode cX11_row 29 = .ok (.iload_n 1, 1) := by decide +kernel
theorem dX11_row_30 : decode cX11_row 30 = .ok (.aaload, 1) := by decide +kernel
theorem dX11_row_31 : decode cX11_row 31 = .ok (.iload_n 2, 1) := by decide +kernel
theorem dX11_row_32 : decode cX11_row 32 = .ok (.invokevirtual 77, 3) := by decide +kernel
theorem dX11_row_35 : decode cX11_row 35 = .ok (.iload_n 2, 1) := by decide +kernel
theorem dX11_row_36 : decode cX11_row 36 = .ok (.ireturn, 1) := by decide +kernel
theorem dX11_row_19 : decode cX11_row 19 = .ok (.aload_n 0, 1) := by decide +kernel
theorem dX11_row_20 : decode cX11_row 20 = .ok (.iconst 5, 1) := by decide +kernel
theorem dX11_row_21 : decode cX11_row 21 = .ok (.invokevirtual 73, 3) := by decide +kernel
theorem dX11_row_24 : decode cX11_row 24 = .ok (.ireturn, 1) := by decide +kernel
theorem dX11_row_13 : decode cX11_row 13 = .ok (.iconst (-1), 1) := by decide +kernel
theorem dX11_row_14 : decode cX11_row 14 = .ok (.ireturn, 1) := by decide +kernel
set_option maxRecDepth 20000 in
theorem ggX11_row_X11_isRow : GoodIn wsX11_row wsX11_isRow := goodIn_r _ [5] (by decide +kernel) (by decide +kernel)
set_option maxRecDepth 20000 in
theorem gX11_row_X11_isRow : GoodIn wsX11_row (va_wsS RX11 69 yX11_isRow wsX11_isRow) := goodIn_app (goodIn_of _ (by decide +kernel)) ggX11_row_X11_isRow
set_option maxRecDepth 20000 in
theorem ggX11_row_X6_beZeros : GoodIn wsX11_row wsX6_beZeros := goodIn_r _ [16, 17, 18, 19, 20, 21, 22, 34, 35] (by decide +kernel) (by decide +kernel)
set_option maxRecDepth 20000 in
theorem gX11_row_X6_beZeros : GoodIn wsX11_row (wsV RX11 77 RX6 yX6_beZeros wsX6_beZeros) := goodIn_app (goodIn_of _ (by decide +kernel)) ggX11_row_X6_beZeros
set_option maxRecDepth 20000 in
theorem ggX11_row_X11_found : GoodIn wsX11_row wsX11_found := goodIn_r _ [9, 10, 11, 23, 24, 25, 26, 27, 28, 29, 30, 31, 32, 33] (by decide +kernel) (by decide +kernel)
set_option maxRecDepth 20000 in
theorem gX11_row_X11_found : GoodIn wsX11_row (wsV RX11 73 RX11 yX11_found wsX11_found) := goodIn_app (goodIn_of _ (by decide +kernel)) ggX11_row_X11_found
set_option maxHeartbeats 4000000 in
set_option maxRecDepth 100000 in
/-- row -/
theorem px_row (l : Launch) (dC : Nat → ClassId) (dI : Nat → Nat → Nat) (cs : Nat → ClassId) (ad : Nat → Nat) (H : Heap) (hP : va_P (dC, dI) vwCl (wX cs ad) H) (hD0 : va_D (fun _ => True) (wX cs ad)) (vr : Int32) (vn : Int32) : Met l yX11_row wsX11_row ({ frames := 2, cells := 0, slots := 0, locals := 44 }) (va_Pc [.ref (ad 0), .int vr, .int vn] (pb_P (dC, dI) vwCl (tyX cs) H)) (va_Qi (fun (z : Int32) (_ : Unit) => z = sf_row vr vn) (fun _ _ => True) (va_A (wX cs ad) H.size)) 0 0 (va_A (wX cs ad) H.size) := by
  refine Met.ofW (cc := cX11_row) (maxL := 3) (ret := (some .int)) (by decide) rfl ?_
  intro p e s m args below meth c s₁ B hml hv
  obtain ⟨rfl, hh, hK⟩ := hv
  have hx := B.exec
  have hb := B.bytes
  have hr := B.returns
  have hts := atoms_spec (ws := wsX11_row) B.pre
  have hown : s.vm.findClass RX11 = some m.cls := findClass_of_methodNamed B.named
  have hlocks := B.notSynchronized
  subst hh
  have hD := hD0.self (sz := s.heap.size)
  have hA : ∀ q : Nat, s.heap.size ≤ q → va_A (wX cs ad) s.heap.size q := fun q h => Or.inr h
  have hS : va_S (va_A (wX cs ad) s.heap.size) s.heap s.heap [] := va_S.rf
  have hl := lv_entry ([.ref (ad 0), .int vr, .int vn]) (n := 3) (Nat.le_of_ble_eq_true rfl)
  rw [lg_entry_eq]
  generalize (lg_sl ([.ref (ad 0), .int vr, .int vn]) ++ List.replicate (3 - (lg_sl ([.ref (ad 0), .int vr, .int vn])).length) Slot.unset).toArray = ls at hl ⊢
  have hl : lv_has ls 3 [(0, .ref (ad 0)), (1, .int vr), (2, .int vn)] := hl
  refine lv_iload_n hx hb dX11_row_0 rfl (lv_at hl 1 rfl) ?_
  refine cr_i (va_runS (As := [.int vr]) (rest := []) ⟨hx, hb, hml, hown, hts⟩ (cx_isRow l dC dI (tyX cs) s.heap vr) (va_cwS 1 hts gX11_row_X11_isRow rfl rfl rfl (by decide +kernel) ⟨Nat.le_of_ble_eq_true rfl, Nat.le_of_ble_eq_true rfl⟩) ⟨pb_c, pb_m hK⟩ rfl rfl hl.1 rfl (lv_room (Nat.le_of_ble_eq_true rfl)) dX11_row_1 ⟨Nat.zero_le _, Nat.zero_le _⟩) hS (fun r_1 hw_1 locs hS => ?_)
  obtain ⟨c_1, rfl⟩ | ⟨c_1, rfl⟩ := ic_of hw_1
  · have c_1 : 0 ≤ vr.toInt ∧ vr.toInt < 6 := c_1
    refine lv_if_eq (tgt := 13) hx hb dX11_row_4 (by decide) (fun c => absurd c (by decide)) (fun _ => ?_)
    refine lv_iload_n hx hb dX11_row_7 rfl (lv_at hl 2 rfl) ?_
    refine lv_bipush (v := 40) hx hb dX11_row_8 (by decide) ?_
    refine lv_icmp_le (tgt := 15) hx hb dX11_row_10 (by decide) (fun c_2 => ?_) (fun c_2 => ?_)
    · have c_2 : vn.toInt ≤ 40 := il_le c_2
      refine lv_iload_n hx hb dX11_row_15 rfl (lv_at hl 2 rfl) ?_
      refine lv_if_ge (tgt := 25) hx hb dX11_row_16 (by decide) (fun c_3 => ?_) (fun c_3 => ?_)
      · have c_3 : 0 ≤ vn.toInt := il_le c_3
        refine lv_aload_n hx hb dX11_row_25 rfl (lv_at hl 0 rfl) ?_
        refine va_get (D := (dC, dI)) (ci := 11) (v := .ref (ad 1)) (C := RX11) (T := TX11) (N := 11) hx hb hts (by decide +kernel) hown hK hP 0 rfl rfl 0 (by decide) (hts (.fieldLink RX11 11 "DearLetters" "rows" "[LDearLetters$Row;") (by decide +kernel)) (fun _ h9 => h9) rfl dX11_row_26 ?_
        refine lv_iload_n hx hb dX11_row_29 rfl (lv_at hl 1 rfl) ?_
        have hj_4 := vi_lt (n := 6) (show vp_in vr 6 from vi_of (by omega) (by omega))
        refine va_aldq hx hb hK hP 1 0 rfl rfl (show vp_in vr 6 from vi_of (by omega) (by omega)) dX11_row_30 ?_
        refine lq_v (.ref (ad (8 + vr.toNatClampNeg))) rfl ?_
        refine lv_iload_n hx hb dX11_row_31 rfl (lv_at hl 2 rfl) ?_
        refine va_callv (va_runV (As := [.int vn]) (rest := []) ⟨hx, hb, hml, hown, hts⟩ (cx_beZeros l dC dI s.heap (ad (8 + vr.toNatClampNeg)) (ad (21 + vr.toNatClampNeg)) (cs (21 + vr.toNatClampNeg)) (fun _ => 0) vn (p2_P hP (wX_row cs ad _ hj_4) (wX_places cs ad _ hj_4).1) (p2_D hD0 (wX_row cs ad _ hj_4) (wX_places cs ad _ hj_4).1 (by omega))) (cwV 1 hts gX11_row_X6_beZeros rfl rfl rfl (by decide +kernel) ⟨Nat.le_of_ble_eq_true rfl, Nat.le_of_ble_eq_true rfl⟩) ⟨pb_c, va_recv hK hP (ci := 6) (q0 := (8 + vr.toNatClampNeg)) rfl (wX_row cs ad _ hj_4), pb_m (k1_K hK (wX_places cs ad _ hj_4).2)⟩ rfl rfl hl.1 rfl (lv_room (Nat.le_of_ble_eq_true rfl)) dX11_row_32 ⟨Nat.zero_le _, Nat.zero_le _⟩) hS (fun q _ h => p2_A (wX_row cs ad _ hj_4) (wX_places cs ad _ hj_4).1 q h) (p2_A (wX_row cs ad _ hj_4) (wX_places cs ad _ hj_4).1) (fun u t H1 locs ht hvm hw hB hz1 hk1 hS => ?_)
        refine lv_iload_n hx hb dX11_row_35 rfl (lv_at hl 2 rfl) ?_
        exact W.iret (v := vn) hx hb hr (fun t ht hW => ⟨⟨vn, (), rfl, (by unfold sf_row; (split <;> first | rfl | (exfalso; omega) | (split <;> first | rfl | (exfalso; omega) | (split <;> first | rfl | (exfalso; omega))))), trivial⟩, hS.F ht⟩) hS.2.2 dX11_row_36
      · have c_3 : vn.toInt < 0 := il_nle c_3
        refine lv_aload_n hx hb dX11_row_19 rfl (lv_at hl 0 rfl) ?_
        refine lv_iconst (v := 5) hx hb dX11_row_20 (by decide) ?_
        refine va_calli (va_runV (As := [.int 5]) (rest := []) ⟨hx, hb, hml, hown, hts⟩ (cx_found l dC dI cs ad s.heap hP hD0 5 (show vp_in 5 6 by unfold vp_in; decide)) (cwV 1 hts gX11_row_X11_found rfl rfl rfl (by decide +kernel) ⟨Nat.le_of_ble_eq_true rfl, Nat.le_of_ble_eq_true rfl⟩) ⟨pb_c, va_recv hK hP (ci := 11) (q0 := 0) rfl rfl, pb_m hK⟩ rfl rfl hl.1 rfl (lv_room (Nat.le_of_ble_eq_true rfl)) dX11_row_21 ⟨Nat.zero_le _, Nat.zero_le _⟩) hS (fun q _ h => h) (fun q h => h) (fun r_5 u t H1 locs ht hvm hw_5 hB hz1 hk1 hS => ?_)
        obtain rfl : r_5 = (-3) := hw_5
        exact W.iret (v := (-3)) hx hb hr (fun t ht hW => ⟨⟨(-3), (), rfl, (by unfold sf_row; (split <;> first | rfl | (exfalso; omega) | (split <;> first | rfl | (exfalso; omega) | (split <;> first | rfl | (exfalso; omega))))), trivial⟩, hS.F ht⟩) hS.2.2 dX11_row_24
    · have c_2 : 40 < vn.toInt := il_nle c_2
      refine lv_iconst (v := (-1)) hx hb dX11_row_13 (by decide) ?_
      exact W.iret (v := (-1)) hx hb hr (fun t ht hW => ⟨⟨(-1), (), rfl, (by unfold sf_row; (split <;> first | rfl | (exfalso; omega) | (split <;> first | rfl | (exfalso; omega) | (split <;> first | rfl | (exfalso; omega))))), trivial⟩, hS.F ht⟩) hS.2.2 dX11_row_14
  · have c_1 : ¬ (0 ≤ vr.toInt ∧ vr.toInt < 6) := c_1
    refine lv_if_eq (tgt := 13) hx hb dX11_row_4 (by decide) (fun _ => ?_) (fun c => absurd (by decide) c)
    refine lv_iconst (v := (-1)) hx hb dX11_row_13 (by decide) ?_
    exact W.iret (v := (-1)) hx hb hr (fun t ht hW => ⟨⟨(-1), (), rfl, (by unfold sf_row; (split <;> first | rfl | (exfalso; omega) | (split <;> first | rfl | (exfalso; omega) | (split <;> first | rfl | (exfalso; omega))))), trivial⟩, hS.F ht⟩) hS.2.2 dX11_row_14
theorem dX11_text_0 : decode cX11_text 0 = .ok (.iload_n 1, 1) := by decide +kernel
theorem dX11_text_1 : decode cX11_text 1 = .ok (.invokestatic 112, 3) := by decide +kernel
theorem dX11_text_4 : decode cX11_text 4 = .ok (.ifCond .eq 9, 3) := by decide +kernel
theorem dX11_text_7 : decode cX11_text 7 = .ok (.iload_n 2, 1) := by decide +kernel
theorem dX11_text_8 : decode cX11_text 8 = .ok (.bipush 80, 2) := by decide +kernel
theorem dX11_text_10 : decode cX11_text 10 = .ok (.if_icmp .le 5, 3) := by decide +kernel
theorem dX11_text_15 : decode cX11_text 15 = .ok (.iload_n 2, 1) := by decide +kernel
theorem dX11_text_16 : decode cX11_text 16 = .ok (.ifCond .ge 9, 3) := by decide +kernel
theorem dX11_text_25 : decode cX11_text 25 = .ok (.aload_n 0, 1) := by decide +kernel
theorem dX11_text_26 : decode cX11_text 26 = .ok (.getfield 17, 3) := by decide +kernel
theorem dX11_text_29 : decode cX11_text 29 = .ok (.iload_n 1, 1) := by decide +kernel
theorem dX11_text_30 : decode cX11_text 30 = .ok (.aaload, 1) := by decide +kernel
theorem dX11_text_31 : decode cX11_text 31 = .ok (.iload_n 2, 1) := by decide +kernel
theorem dX11_text_32 : decode cX11_text 32 = .ok (.invokevirtual 115, 3) := by decide +kernel
theorem dX11_text_35 : decode cX11_text 35 = .ok (.iload_n 2, 1) := by decide +kernel
theorem dX11_text_36 : decode cX11_text 36 = .ok (.ireturn, 1) := by decide +kernel
theorem dX11_text_19 : decode cX11_text 19 = .ok (.aload_n 0, 1) := by decide +kernel
theorem dX11_text_20 : decode cX11_text 20 = .ok (.iconst 5, 1) := by decide +kernel
theorem dX11_text_21 : decode cX11_text 21 = .ok (.invokevirtual 73, 3) := by decide +kernel
theorem dX11_text_24 : decode cX11_text 24 = .ok (.ireturn, 1) := by decide +kernel
theorem dX11_text_13 : decode cX11_text 13 = .ok (.iconst (-1), 1) := by decide +kernel
theorem dX11_text_14 : decode cX11_text 14 = .ok (.ireturn, 1) := by decide +kernel
set_option maxRecDepth 20000 in
theorem ggX11_text_X11_isText : GoodIn wsX11_text wsX11_isText := goodIn_r _ [5] (by decide +kernel) (by decide +kernel)
set_option maxRecDepth 20000 in
theorem gX11_text_X11_isText : GoodIn wsX11_text (va_wsS RX11 112 yX11_isText wsX11_isText) := goodIn_app (goodIn_of _ (by decide +kernel)) ggX11_text_X11_isText
set_option maxRecDepth 20000 in
theorem ggX11_text_X9_beBlanks : GoodIn wsX11_text wsX9_beBlanks := goodIn_r _ [16, 17, 18, 19, 20, 21, 22, 34, 35] (by decide +kernel) (by decide +kernel)
set_option maxRecDepth 20000 in
theorem gX11_text_X9_beBlanks : GoodIn wsX11_text (wsV RX11 115 RX9 yX9_beBlanks wsX9_beBlanks) := goodIn_app (goodIn_of _ (by decide +kernel)) ggX11_text_X9_beBlanks
set_option maxRecDepth 20000 in
theorem ggX11_text_X11_found : GoodIn wsX11_text wsX11_found := goodIn_r _ [9, 10, 11, 23, 24, 25, 26, 27, 28, 29, 30, 31, 32, 33] (by decide +kernel) (by decide +kernel)
set_option maxRecDepth 20000 in
theorem gX11_text_X11_found : GoodIn wsX11_text (wsV RX11 73 RX11 yX11_found wsX11_found) := goodIn_app (goodIn_of _ (by decide +kernel)) ggX11_text_X11_found
set_option maxHeartbeats 4000000 in
set_option maxRecDepth 100000 in
/-- text -/
theorem px_text (l : Launch) (dC : Nat → ClassId) (dI : Nat → Nat → Nat) (cs : Nat → ClassId) (ad : Nat → Nat) (H : Heap) (hP : va_P (dC, dI) vwCl (wX cs ad) H) (hD0 : va_D (fun _ => True) (wX cs ad)) (vt : Int32) (vn : Int32) : Met l yX11_text wsX11_text ({ frames := 2, cells := 0, slots := 0, locals := 44 }) (va_Pc [.ref (ad 0), .int vt, .int vn] (pb_P (dC, dI) vwCl (tyX cs) H)) (va_Qi (fun (z : Int32) (_ : Unit) => z = sf_text vt vn) (fun _ _ => True) (va_A (wX cs ad) H.size)) 0 0 (va_A (wX cs ad) H.size) := by
  refine Met.ofW (cc := cX11_text) (maxL := 3) (ret := (some .int)) (by decide) rfl ?_
  intro p e s m args below meth c s₁ B hml hv
  obtain ⟨rfl, hh, hK⟩ := hv
  have hx := B.exec
  have hb := B.bytes
  have hr := B.returns
  have hts := atoms_spec (ws := wsX11_text) B.pre
  have hown : s.vm.findClass RX11 = some m.cls := findClass_of_methodNamed B.named
  have hlocks := B.notSynchronized
  subst hh
  have hD := hD0.self (sz := s.heap.size)
  have hA : ∀ q : Nat, s.heap.size ≤ q → va_A (wX cs ad) s.heap.size q := fun q h => Or.inr h
  have hS : va_S (va_A (wX cs ad) s.heap.size) s.heap s.heap [] := va_S.rf
  have hl := lv_entry ([.ref (ad 0), .int vt, .int vn]) (n := 3) (Nat.le_of_ble_eq_true rfl)
  rw [lg_entry_eq]
  generalize (lg_sl ([.ref (ad 0), .int vt, .int vn]) ++ List.replicate (3 - (lg_sl ([.ref (ad 0), .int vt, .int vn])).length) Slot.unset).toArray = ls at hl ⊢
  have hl : lv_has ls 3 [(0, .ref (ad 0)), (1, .int vt), (2, .int vn)] := hl
  refine lv_iload_n hx hb dX11_text_0 rfl (lv_at hl 1 rfl) ?_
  refine cr_i (va_runS (As := [.int vt]) (rest := []) ⟨hx, hb, hml, hown, hts⟩ (cx_isText l dC dI (tyX cs) s.heap vt) (va_cwS 1 hts gX11_text_X11_isText rfl rfl rfl (by decide +kernel) ⟨Nat.le_of_ble_eq_true rfl, Nat.le_of_ble_eq_true rfl⟩) ⟨pb_c, pb_m hK⟩ rfl rfl hl.1 rfl (lv_room (Nat.le_of_ble_eq_true rfl)) dX11_text_1 ⟨Nat.zero_le _, Nat.zero_le _⟩) hS (fun r_1 hw_1 locs hS => ?_)
  obtain ⟨c_1, rfl⟩ | ⟨c_1, rfl⟩ := ic_of hw_1
  · have c_1 : 0 ≤ vt.toInt ∧ vt.toInt < 4 := c_1
    refine lv_if_eq (tgt := 13) hx hb dX11_text_4 (by decide) (fun c => absurd c (by decide)) (fun _ => ?_)
    refine lv_iload_n hx hb dX11_text_7 rfl (lv_at hl 2 rfl) ?_
    refine lv_bipush (v := 80) hx hb dX11_text_8 (by decide) ?_
    refine lv_icmp_le (tgt := 15) hx hb dX11_text_10 (by decide) (fun c_2 => ?_) (fun c_2 => ?_)
    · have c_2 : vn.toInt ≤ 80 := il_le c_2
      refine lv_iload_n hx hb dX11_text_15 rfl (lv_at hl 2 rfl) ?_
      refine lv_if_ge (tgt := 25) hx hb dX11_text_16 (by decide) (fun c_3 => ?_) (fun c_3 => ?_)
      · have c_3 : 0 ≤ vn.toInt := il_le c_3
        refine lv_aload_n hx hb dX11_text_25 rfl (lv_at hl 0 rfl) ?_
        refine va_get (D := (dC, dI)) (ci := 11) (v := .ref (ad 2)) (C := RX11) (T := TX11) (N := 11) hx hb hts (by decide +kernel) hown hK hP 0 rfl rfl 1 (by decide) (hts (.fieldLink RX11 17 "DearLetters" "texts" "[LDearLetters$Text;") (by decide +kernel)) (fun _ h9 => h9) rfl dX11_text_26 ?_
        refine lv_iload_n hx hb dX11_text_29 rfl (lv_at hl 1 rfl) ?_
        have hj_4 := vi_lt (n := 4) (show vp_in vt 4 from vi_of (by omega) (by omega))
        refine va_aldq hx hb hK hP 2 1 rfl rfl (show vp_in vt 4 from vi_of (by omega) (by omega)) dX11_text_30 ?_
        refine lq_v (.ref (ad (14 + vt.toNatClampNeg))) rfl ?_
        refine lv_iload_n hx hb dX11_text_31 rfl (lv_at hl 2 rfl) ?_
        refine va_callv (va_runV (As := [.int vn]) (rest := []) ⟨hx, hb, hml, hown, hts⟩ (cx_beBlanks l dC dI s.heap (ad (14 + vt.toNatClampNeg)) (ad (27 + vt.toNatClampNeg)) (cs (27 + vt.toNatClampNeg)) (fun _ => 0) vn (p2_P hP (wX_text cs ad _ hj_4) (wX_bytes cs ad _ hj_4).1) (p2_D hD0 (wX_text cs ad _ hj_4) (wX_bytes cs ad _ hj_4).1 (by omega))) (cwV 1 hts gX11_text_X9_beBlanks rfl rfl rfl (by decide +kernel) ⟨Nat.le_of_ble_eq_true rfl, Nat.le_of_ble_eq_true rfl⟩) ⟨pb_c, va_recv hK hP (ci := 9) (q0 := (14 + vt.toNatClampNeg)) rfl (wX_text cs ad _ hj_4), pb_m (k1_K hK (wX_bytes cs ad _ hj_4).2)⟩ rfl rfl hl.1 rfl (lv_room (Nat.le_of_ble_eq_true rfl)) dX11_text_32 ⟨Nat.zero_le _, Nat.zero_le _⟩) hS (fun q _ h => p2_A (wX_text cs ad _ hj_4) (wX_bytes cs ad _ hj_4).1 q h) (p2_A (wX_text cs ad _ hj_4) (wX_bytes cs ad _ hj_4).1) (fun u t H1 locs ht hvm hw hB hz1 hk1 hS => ?_)
        refine lv_iload_n hx hb dX11_text_35 rfl (lv_at hl 2 rfl) ?_
        exact W.iret (v := vn) hx hb hr (fun t ht hW => ⟨⟨vn, (), rfl, (by unfold sf_text; (split <;> first | rfl | (exfalso; omega) | (split <;> first | rfl | (exfalso; omega) | (split <;> first | rfl | (exfalso; omega))))), trivial⟩, hS.F ht⟩) hS.2.2 dX11_text_36
      · have c_3 : vn.toInt < 0 := il_nle c_3
        refine lv_aload_n hx hb dX11_text_19 rfl (lv_at hl 0 rfl) ?_
        refine lv_iconst (v := 5) hx hb dX11_text_20 (by decide) ?_
        refine va_calli (va_runV (As := [.int 5]) (rest := []) ⟨hx, hb, hml, hown, hts⟩ (cx_found l dC dI cs ad s.heap hP hD0 5 (show vp_in 5 6 by unfold vp_in; decide)) (cwV 1 hts gX11_text_X11_found rfl rfl rfl (by decide +kernel) ⟨Nat.le_of_ble_eq_true rfl, Nat.le_of_ble_eq_true rfl⟩) ⟨pb_c, va_recv hK hP (ci := 11) (q0 := 0) rfl rfl, pb_m hK⟩ rfl rfl hl.1 rfl (lv_room (Nat.le_of_ble_eq_true rfl)) dX11_text_21 ⟨Nat.zero_le _, Nat.zero_le _⟩) hS (fun q _ h => h) (fun q h => h) (fun r_5 u t H1 locs ht hvm hw_5 hB hz1 hk1 hS => ?_)
        obtain rfl : r_5 = (-3) := hw_5
        exact W.iret (v := (-3)) hx hb hr (fun t ht hW => ⟨⟨(-3), (), rfl, (by unfold sf_text; (split <;> first | rfl | (exfalso; omega) | (split <;> first | rfl | (exfalso; omega) | (split <;> first | rfl | (exfalso; omega))))), trivial⟩, hS.F ht⟩) hS.2.2 dX11_text_24
    · have c_2 : 80 < vn.toInt := il_nle c_2
      refine lv_iconst (v := (-1)) hx hb dX11_text_13 (by decide) ?_
      exact W.iret (v := (-1)) hx hb hr (fun t ht hW => ⟨⟨(-1), (), rfl, (by unfold sf_text; (split <;> first | rfl | (exfalso; omega) | (split <;> first | rfl | (exfalso; omega) | (split <;> first | rfl | (exfalso; omega))))), trivial⟩, hS.F ht⟩) hS.2.2 dX11_text_14
  · have c_1 : ¬ (0 ≤ vt.toInt ∧ vt.toInt < 4) := c_1
    refine lv_if_eq (tgt := 13) hx hb dX11_text_4 (by decide) (fun _ => ?_) (fun c => absurd (by decide) c)
    refine lv_iconst (v := (-1)) hx hb dX11_text_13 (by decide) ?_
    exact W.iret (v := (-1)) hx hb hr (fun t ht hW => ⟨⟨(-1), (), rfl, (by unfold sf_text; (split <;> first | rfl | (exfalso; omega) | (split <;> first | rfl | (exfalso; omega) | (split <;> first | rfl | (exfalso; omega))))), trivial⟩, hS.F ht⟩) hS.2.2 dX11_text_14
