theorem kp_left {D : va_G} {cl : List vw_C} {w1 w2 : va_W} {H : Heap} (hP : va_P D cl (w1 ++ w2) H) : va_P D cl w1 H := fun k q h => hP k q (by rw [List.getElem?_append_left (List.getElem?_eq_some_iff.mp h).1]; exact h)
set_option maxHeartbeats 4000000 in
set_option maxRecDepth 100000 in
/-- THE LAW, from its entry -/
theorem whole_start {p : Program} {e : Env} {s : State} {m : MethodId} {below : List Frame} {meth : Method} {c : Code} (l : Launch) {b L : Nat} {xs : Nat → Int32} (hL : L ≤ 6) (C0 : lw_At p s m meth c b L xs) : W p l e room_1 s m #[Value.ref b] below meth c s.heap [] 0 0 (lw_Z below #[Value.ref b] s) (entryFrame m ([Value.ref b] : List Value).toArray 4) := by
  have C1 := C0
  obtain ⟨hx, hb, hr, hml, hown0, hts0, hX, hbl, hlocks, hgv⟩ := C0
  have hown : s.vm.findClass RL = some m.cls := hown0
  have hts := hts0
  have hA : ∀ q : Nat, s.heap.size ≤ q → (fun q : Nat => s.heap.size ≤ q) q := fun _ h => h
  have hbA : ¬ (fun q : Nat => s.heap.size ≤ q) b := Nat.not_le.mpr hbl
  have k_0 := va_Nw.of rfl (A := #[Value.ref b]) (hts0 (.methodLinkNest RX11 29 yX10_init "DearLetters") (tbq_at 1 34 (by decide +kernel)))
  have k_1 := va_Nw.of rfl (A := #[Value.ref b]) (hts0 (.methodLinkNest RX11 36 yX4_init "DearLetters") (tbq_at 1 187 (by decide +kernel)))
  have k_2 := va_Nw.of rfl (A := #[Value.ref b]) (hts0 (.methodLinkNest RX11 50 yX5_init "DearLetters") (tbq_at 2 16 (by decide +kernel)))
  have k_3 := va_Nw.of rfl (A := #[Value.ref b]) (hts0 (.methodLinkNest RX11 57 yX1_init "DearLetters") (tbq_at 2 100 (by decide +kernel)))
  have k_4 := va_Nw.of rfl (A := #[Value.ref b]) (hts0 (.methodLinkNest RX11 66 yX6_init "DearLetters") (tbq_at 2 125 (by decide +kernel)))
  have k_5 := va_Nw.of rfl (A := #[Value.ref b]) (hts0 (.methodLinkNest RX11 67 yX9_init "DearLetters") (tbq_at 2 141 (by decide +kernel)))
  have k_6 := va_Nw.of rfl (A := #[Value.ref b]) (hts0 (.methodLinkNest RX2 17 yX7_init "DearLetters") (tbq_at 1 219 (by decide +kernel)))
  have k_7 := va_Nw.of rfl (A := #[Value.ref b]) (hts0 (.methodLinkNest RX5 23 yX0_init "DearLetters") (tbq_at 2 22 (by decide +kernel)))
  have k_8 := va_Nw.of rfl (A := #[Value.ref b]) (hts0 (.methodLinkNest RX8 21 yX3_init "DearLetters") (tbq_at 1 47 (by decide +kernel)))
  have k_9 := va_AO.of (A := #[Value.ref b]) (hts0 (.arrayOver (.object RX6)) (tbq_at 1 27 (by decide +kernel)))
  have k_10 := va_AO.of (A := #[Value.ref b]) (hts0 (.arrayOver (.object RX9)) (tbq_at 1 29 (by decide +kernel)))
  have k_11 := va_AO.of (A := #[Value.ref b]) (hts0 (.arrayOver (.object RX8)) (tbq_at 1 31 (by decide +kernel)))
  have k_12 := va_AO.of (A := #[Value.ref b]) (hts0 (.arrayOver (.object RX3)) (tbq_at 1 45 (by decide +kernel)))
  have k_13 := va_AO.of (A := #[Value.ref b]) (hts0 (.arrayOver (.object RX7)) (tbq_at 1 217 (by decide +kernel)))
  have hq : kq s := ⟨k_0, k_1, k_2, k_3, k_4, k_5, k_6, k_7, k_8, k_9, k_10, k_11, k_12, k_13⟩
  obtain ⟨c0, i0, hKn0⟩ := u_known (C := RX0) (T := TX0) (N := 4) (n := 4) hts0 inX0 (hts (.instantiable RX0 4) (tbq_at 2 21 (by decide +kernel)))
  obtain ⟨c1, i1, hKn1⟩ := u_known (C := RX1) (T := TX1) (N := 5) (n := 5) hts0 inX1 (hts (.instantiable RX1 5) (tbq_at 2 99 (by decide +kernel)))
  obtain ⟨c2, i2, hKn2⟩ := u_known (C := RX2) (T := TX2) (N := 2) (n := 2) hts0 inX2 (hts (.instantiable RX2 2) (tbq_at 1 211 (by decide +kernel)))
  obtain ⟨c3, i3, hKn3⟩ := u_known (C := RX3) (T := TX3) (N := 10) (n := 10) hts0 inX3 (hts (.instantiable RX3 10) (tbq_at 1 46 (by decide +kernel)))
  obtain ⟨c4, i4, hKn4⟩ := u_known (C := RX4) (T := TX4) (N := 6) (n := 6) hts0 inX4 (hts (.instantiable RX4 6) (tbq_at 1 186 (by decide +kernel)))
  obtain ⟨c5, i5, hKn5⟩ := u_known (C := RX5) (T := TX5) (N := 15) (n := 15) hts0 inX5 (hts (.instantiable RX5 15) (tbq_at 2 15 (by decide +kernel)))
  obtain ⟨c6, i6, hKn6⟩ := u_known (C := RX6) (T := TX6) (N := 2) (n := 2) hts0 inX6 (hts (.instantiable RX6 2) (tbq_at 2 124 (by decide +kernel)))
  obtain ⟨c7, i7, hKn7⟩ := u_known (C := RX7) (T := TX7) (N := 7) (n := 7) hts0 inX7 (hts (.instantiable RX7 7) (tbq_at 1 218 (by decide +kernel)))
  obtain ⟨c8, i8, hKn8⟩ := u_known (C := RX8) (T := TX8) (N := 6) (n := 6) hts0 inX8 (hts (.instantiable RX8 6) (tbq_at 1 39 (by decide +kernel)))
  obtain ⟨c9, i9, hKn9⟩ := u_known (C := RX9) (T := TX9) (N := 2) (n := 2) hts0 inX9 (hts (.instantiable RX9 2) (tbq_at 2 140 (by decide +kernel)))
  obtain ⟨c10, i10, hKn10⟩ := u_known (C := RX10) (T := TX10) (N := 8) (n := 8) hts0 inX10 (hts (.instantiable RX10 8) (tbq_at 1 33 (by decide +kernel)))
  obtain ⟨c11, i11, hKn11⟩ := u_known (C := RX11) (T := TX11) (N := 11) (n := 11) hts0 inX11 (hts (.instantiable RX11 11) (tbq_at 1 19 (by decide +kernel)))
  obtain ⟨c12, i12, hKn12⟩ := u_known (C := RX12) (T := TX12) (N := 46) (n := 46) hts0 inX12 (hts (.instantiable RX12 46) (tbq_at 5 36 (by decide +kernel)))
  obtain ⟨dC, dI, hKc⟩ : ∃ (dC : Nat → ClassId) (dI : Nat → Nat → Nat), ∀ (k : Nat) (q : vw_C), vwCl[k]? = some q → u_Kn s q.1 q.2.1 q.2.2 (dC k) (dI k) := by
    refine ⟨fun k => if k = 0 then c0 else if k = 1 then c1 else if k = 2 then c2 else if k = 3 then c3 else if k = 4 then c4 else if k = 5 then c5 else if k = 6 then c6 else if k = 7 then c7 else if k = 8 then c8 else if k = 9 then c9 else if k = 10 then c10 else if k = 11 then c11 else c12, fun k => if k = 0 then i0 else if k = 1 then i1 else if k = 2 then i2 else if k = 3 then i3 else if k = 4 then i4 else if k = 5 then i5 else if k = 6 then i6 else if k = 7 then i7 else if k = 8 then i8 else if k = 9 then i9 else if k = 10 then i10 else if k = 11 then i11 else i12, ?_⟩
    intro k q hq
    match k, hq with
    | 0, hq => cases hq; exact hKn0
    | 1, hq => cases hq; exact hKn1
    | 2, hq => cases hq; exact hKn2
    | 3, hq => cases hq; exact hKn3
    | 4, hq => cases hq; exact hKn4
    | 5, hq => cases hq; exact hKn5
    | 6, hq => cases hq; exact hKn6
    | 7, hq => cases hq; exact hKn7
    | 8, hq => cases hq; exact hKn8
    | 9, hq => cases hq; exact hKn9
    | 10, hq => cases hq; exact hKn10
    | 11, hq => cases hq; exact hKn11
    | 12, hq => cases hq; exact hKn12
    | k + 13, hq => simp [vwCl] at hq
  have hS : va_S (fun q : Nat => s.heap.size ≤ q) s.heap s.heap [] := va_S.rf
  have hK : va_K (dC, dI) vwCl [] s := ⟨hKc, fun k q h => by simp at h⟩
  have hP : va_P (dC, dI) vwCl [] s.heap := fun k q h => by simp at h
  have hD : va_D (fun q : Nat => s.heap.size ≤ q) [] := ⟨fun i j p q h => by simp at h, fun k q h => by simp at h⟩
  have hl := lv_entry ([.ref b]) (n := 4) (Nat.le_of_ble_eq_true rfl)
  rw [lg_entry_eq]
  generalize (lg_sl ([.ref b]) ++ List.replicate (4 - (lg_sl ([.ref b])).length) Slot.unset).toArray = ls at hl ⊢
  have hl : lv_has ls 4 [(0, .ref b)] := hl
  refine va_new (ci := 11) (fs := [.null, .null, .null, .null, .null, .null, .null, .null, .null, .int 0, .int 0]) (C := RX11) (T := TX11) (N := 11) hx hb hts0 inX11 tyX11 tyX11_ok hown (hts (.classLink RL 7 RX11) (tbq_at 1 18 (by decide +kernel))) (hts (.instantiable RX11 11) (tbq_at 1 19 (by decide +kernel))) (hts (.initialized RX11) (tbq_at 1 1 (by decide +kernel))) hK hP hD hS hA rfl (fun j hj => by rcases (show j = 0 ∨ j = 1 ∨ j = 2 ∨ j = 3 ∨ j = 4 ∨ j = 5 ∨ j = 6 ∨ j = 7 ∨ j = 8 ∨ j = 9 ∨ j = 10 by omega) with rfl | rfl | rfl | rfl | rfl | rfl | rfl | rfl | rfl | rfl | rfl <;> rfl) (Nat.le_of_ble_eq_true rfl) (Nat.le_of_ble_eq_true rfl) dL_law_0 (fun qx H hP hD hS => ?_)
  have hP : va_P (dC, dI) vwCl [(qx, .inr (11, [.null, .null, .null, .null, .null, .null, .null, .null, .null, .int 0, .int 0]))] H := hP
  have hD : va_D (fun q : Nat => s.heap.size ≤ q) [(qx, .inr (11, [.null, .null, .null, .null, .null, .null, .null, .null, .null, .int 0, .int 0]))] := hD
  refine W.widen (k := 1) (n := 11) (Nat.le_of_ble_eq_true rfl) (Nat.le_of_ble_eq_true rfl) ?_
  refine lv_dup hx hb dL_law_3 rfl ?_
  have hFc := fr_all hD hS hA
  refine va_callv (va_runI (As := []) (rest := [.ref qx]) ⟨hx, hb, hml, hown, hts⟩ (ci_X l dC dI H qx (hP) (hD.weaken (fun _ _ _ _ => trivial))) (cwI 0 hts gq_X11_init rfl rfl rfl (hts (.initialized RX11) (tbq_at 1 1 (by decide +kernel))) (hts (.methodLink RL 9 yX11_init) (tbq_at 1 20 (by decide +kernel))) (hts (.instanceMethod yX11_init) (tbq_at 1 21 (by decide +kernel))) rfl (by decide +kernel) ⟨Nat.le_of_ble_eq_true rfl, Nat.le_of_ble_eq_true rfl⟩) ⟨kb_c, kb_m hK hq⟩ rfl rfl hl.1 rfl (lv_room (Nat.le_of_ble_eq_true rfl)) dL_law_4 ⟨Nat.le_of_ble_eq_true rfl, Nat.le_of_ble_eq_true rfl⟩) hS (fun q _ h => hFc q h) hFc (fun u t H1 locs ht hvm hw hB hz1 hk1 hS => ?_)
  obtain ⟨csx, adx, rfl, hPx, hKx, hDx⟩ := hB
  rw [ht] at hPx
  have hKx := va_K.moved hvm.symm hKx
  have hDx : va_D (fun q : Nat => s.heap.size ≤ q) (wX csx adx) := hDx.weaken (fun _ _ _ h => hFc _ h)
  refine W.widen (k := 157) (n := 1614) (Nat.le_of_ble_eq_true rfl) (Nat.le_of_ble_eq_true rfl) ?_
  refine lv_astore_n (lv' := [(1, .ref (adx 0)), (0, .ref b)]) hx hb dL_law_7 rfl hl (by decide) rfl (fun ls hl => ?_)
  have hP := hPx
  have hD := hDx
  refine va_new (ci := 12) (fs := [.int 0, .null, .int 0, .null, .null, .null, .null, .null, .int 0, .null, .null, .int 0, .null, .int 0, .int 0, .int 0, .null, .int 0, .int 0, .int 0, .int 0, .null, .null, .null, .null, .null, .null, .null, .null, .int 0, .int 0, .int 0, .int 0, .int 0, .int 0, .int 0, .int 0, .int 0, .int 0, .int 0, .null, .null, .int 0, .int 0, .int 0, .long 0]) (C := RX12) (T := TX12) (N := 46) hx hb hts0 inX12 tyX12 tyX12_ok hown (hts (.classLink RL 10 RX12) (tbq_at 5 35 (by decide +kernel))) (hts (.instantiable RX12 46) (tbq_at 5 36 (by decide +kernel))) (hts (.initialized RX12) (tbq_at 1 13 (by decide +kernel))) hK hP hD hS hA rfl (fun j hj => by rcases (show j = 0 ∨ j = 1 ∨ j = 2 ∨ j = 3 ∨ j = 4 ∨ j = 5 ∨ j = 6 ∨ j = 7 ∨ j = 8 ∨ j = 9 ∨ j = 10 ∨ j = 11 ∨ j = 12 ∨ j = 13 ∨ j = 14 ∨ j = 15 ∨ j = 16 ∨ j = 17 ∨ j = 18 ∨ j = 19 ∨ j = 20 ∨ j = 21 ∨ j = 22 ∨ j = 23 ∨ j = 24 ∨ j = 25 ∨ j = 26 ∨ j = 27 ∨ j = 28 ∨ j = 29 ∨ j = 30 ∨ j = 31 ∨ j = 32 ∨ j = 33 ∨ j = 34 ∨ j = 35 ∨ j = 36 ∨ j = 37 ∨ j = 38 ∨ j = 39 ∨ j = 40 ∨ j = 41 ∨ j = 42 ∨ j = 43 ∨ j = 44 ∨ j = 45 by omega) with rfl | rfl | rfl | rfl | rfl | rfl | rfl | rfl | rfl | rfl | rfl | rfl | rfl | rfl | rfl | rfl | rfl | rfl | rfl | rfl | rfl | rfl | rfl | rfl | rfl | rfl | rfl | rfl | rfl | rfl | rfl | rfl | rfl | rfl | rfl | rfl | rfl | rfl | rfl | rfl | rfl | rfl | rfl | rfl | rfl | rfl <;> rfl) (Nat.le_of_ble_eq_true rfl) (Nat.le_of_ble_eq_true rfl) dL_law_8 (fun qm H hP hD hS => ?_)
  have hP : va_P (dC, dI) vwCl (wX csx adx ++ [(qm, .inr (12, [.int 0, .null, .int 0, .null, .null, .null, .null, .null, .int 0, .null, .null, .int 0, .null, .int 0, .int 0, .int 0, .null, .int 0, .int 0, .int 0, .int 0, .null, .null, .null, .null, .null, .null, .null, .null, .int 0, .int 0, .int 0, .int 0, .int 0, .int 0, .int 0, .int 0, .int 0, .int 0, .int 0, .null, .null, .int 0, .int 0, .int 0, .long 0]))]) H := hP
  have hD : va_D (fun q : Nat => s.heap.size ≤ q) (wX csx adx ++ [(qm, .inr (12, [.int 0, .null, .int 0, .null, .null, .null, .null, .null, .int 0, .null, .null, .int 0, .null, .int 0, .int 0, .int 0, .null, .int 0, .int 0, .int 0, .int 0, .null, .null, .null, .null, .null, .null, .null, .null, .int 0, .int 0, .int 0, .int 0, .int 0, .int 0, .int 0, .int 0, .int 0, .int 0, .int 0, .null, .null, .int 0, .int 0, .int 0, .long 0]))]) := hD
  refine W.widen (k := 158) (n := 1660) (Nat.le_of_ble_eq_true rfl) (Nat.le_of_ble_eq_true rfl) ?_
  refine lv_dup hx hb dL_law_11 rfl ?_
  have hPn := hP.sub (ws' := [(qm, .inr (12, [.int 0, .null, .int 0, .null, .null, .null, .null, .null, .int 0, .null, .null, .int 0, .null, .int 0, .int 0, .int 0, .null, .int 0, .int 0, .int 0, .int 0, .null, .null, .null, .null, .null, .null, .null, .null, .int 0, .int 0, .int 0, .int 0, .int 0, .int 0, .int 0, .int 0, .int 0, .int 0, .int 0, .null, .null, .int 0, .int 0, .int 0, .long 0]))]) [31] rfl
  have hDn := hD.sub (ws' := [(qm, .inr (12, [.int 0, .null, .int 0, .null, .null, .null, .null, .null, .int 0, .null, .null, .int 0, .null, .int 0, .int 0, .int 0, .null, .int 0, .int 0, .int 0, .int 0, .null, .null, .null, .null, .null, .null, .null, .null, .int 0, .int 0, .int 0, .int 0, .int 0, .int 0, .int 0, .int 0, .int 0, .int 0, .int 0, .null, .null, .int 0, .int 0, .int 0, .long 0]))]) [31] (by decide) rfl
  have hFc := fr_all hDn hS hA
  refine va_callv (va_runI (As := []) (rest := [.ref qm]) ⟨hx, hb, hml, hown, hts⟩ (ci_M l dC dI H qm (hPn) (hDn.weaken (fun _ _ _ _ => trivial))) (cwI 0 hts gq_X12_init rfl rfl rfl (hts (.initialized RX12) (tbq_at 1 13 (by decide +kernel))) (hts (.methodLink RL 12 yX12_init) (tbq_at 5 37 (by decide +kernel))) (hts (.instanceMethod yX12_init) (tbq_at 5 38 (by decide +kernel))) rfl (by decide +kernel) ⟨Nat.le_of_ble_eq_true rfl, Nat.le_of_ble_eq_true rfl⟩) ⟨kb_c, kb_m hK hq⟩ rfl rfl hl.1 rfl (lv_room (Nat.le_of_ble_eq_true rfl)) dL_law_12 ⟨Nat.le_of_ble_eq_true rfl, Nat.le_of_ble_eq_true rfl⟩) hS (fun q _ h => hFc q h) hFc (fun u t H2 locs ht hvm hw hB hz1 hk1 hS => ?_)
  obtain ⟨csm, adm, rfl, hPm, hKm, hDm⟩ := hB
  rw [ht] at hPm
  have hKm := va_K.moved hvm.symm hKm
  obtain ⟨hP, hD⟩ := va_join (wr := wX csx adx) (w1 := wM csm adm 0) hP hD [31] [0, 1, 2, 3, 4, 5, 6, 7, 8, 9, 10, 11, 12, 13, 14, 15, 16, 17, 18, 19, 20, 21, 22, 23, 24, 25, 26, 27, 28, 29, 30] rfl rfl (by decide) (by decide) hk1 hFc hPm hDm
  have hPx := (kp_left hP)
  refine W.widen (k := 178) (n := 3099) (Nat.le_of_ble_eq_true rfl) (Nat.le_of_ble_eq_true rfl) ?_
  refine lv_astore_n (lv' := [(2, .ref (adm 0)), (1, .ref (adx 0)), (0, .ref b)]) hx hb dL_law_15 rfl hl (by decide) rfl (fun ls hl => ?_)
  refine lv_iconst (v := 0) hx hb dL_law_16 (by decide) ?_
  refine lv_istore_n (lv' := [(3, .int 0), (2, .ref (adm 0)), (1, .ref (adx 0)), (0, .ref b)]) hx hb dL_law_17 rfl hl (by decide) rfl (fun ls hl => ?_)
  refine lv_iload_n hx hb dL_law_18 rfl (lv_at hl 0 rfl) ?_
  refine lv_aload_n hx hb dL_law_19 rfl (lv_at hl 3 rfl) ?_
  refine va_slen hx hb hX hbl hbA hS dL_law_20 ?_
  refine lv_bipush (v := 6) hx hb dL_law_21 (by decide) ?_
  refine lv_isub hx hb dL_law_23 ?_
  by_cases h6 : L = 6
  · subst h6
    refine lq_i 0 (by decide) ?_
    refine lv_icmp_gt (tgt := 1650) hx hb dL_law_24 (by decide) (fun c => absurd c (by decide)) (fun _ => ?_)
    have S0 : lw_S p s m meth c b xs dC dI csx csm adx adm H2 locs ls := ⟨C1, hKx, hKm, hPx, hPm, hD, hS, hl⟩
    refine lv_aload_n hx hb dL_law_27 rfl (lv_at hl 3 rfl) ?_
    refine lv_iload_n hx hb dL_law_28 rfl (lv_at hl 0 rfl) ?_
    refine va_sld hx hb hX hbl hbA hS (show vp_in 0 6 by unfold vp_in; decide) dL_law_29 ?_
    refine lv_bipush (v := 63) hx hb dL_law_30 (by decide) ?_
    refine lv_iand hx hb dL_law_32 ?_
    refine lv_topi (fun y ey => ?_)
    by_cases c_0 : y.toInt < 0 ∨ 48 < y.toInt
    · refine lv_tableOut (tgt := 1644) hx hb dL_law_33 c_0 (by decide) ?_
      exact le_end l C1 hS hl
    by_cases d_0 : y.toInt = 0
    · refine lv_tableIn (off := 211) (tgt := 244) hx hb dL_law_33 (by omega) (by omega) (by rw [d_0]; rfl) (by decide) ?_
      exact le_0 l S0
    by_cases d_1 : y.toInt = 1
    · refine lv_tableIn (off := 244) (tgt := 277) hx hb dL_law_33 (by omega) (by omega) (by rw [d_1]; rfl) (by decide) ?_
      exact le_1 l S0
    by_cases d_2 : y.toInt = 2
    · refine lv_tableIn (off := 287) (tgt := 320) hx hb dL_law_33 (by omega) (by omega) (by rw [d_2]; rfl) (by decide) ?_
      exact le_2 l S0
    by_cases d_3 : y.toInt = 3
    · refine lv_tableIn (off := 320) (tgt := 353) hx hb dL_law_33 (by omega) (by omega) (by rw [d_3]; rfl) (by decide) ?_
      exact le_3 l S0
    by_cases d_4 : y.toInt = 4
    · refine lv_tableIn (off := 343) (tgt := 376) hx hb dL_law_33 (by omega) (by omega) (by rw [d_4]; rfl) (by decide) ?_
      exact le_4 l S0
    by_cases d_5 : y.toInt = 5
    · refine lv_tableIn (off := 406) (tgt := 439) hx hb dL_law_33 (by omega) (by omega) (by rw [d_5]; rfl) (by decide) ?_
      exact le_5 l S0
    by_cases d_6 : y.toInt = 6
    · refine lv_tableIn (off := 429) (tgt := 462) hx hb dL_law_33 (by omega) (by omega) (by rw [d_6]; rfl) (by decide) ?_
      exact le_6 l S0
    by_cases d_7 : y.toInt = 7
    · refine lv_tableIn (off := 462) (tgt := 495) hx hb dL_law_33 (by omega) (by omega) (by rw [d_7]; rfl) (by decide) ?_
      exact le_7 l S0
    by_cases d_8 : y.toInt = 8
    · refine lv_tableIn (off := 505) (tgt := 538) hx hb dL_law_33 (by omega) (by omega) (by rw [d_8]; rfl) (by decide) ?_
      exact le_8 l S0
    by_cases d_9 : y.toInt = 9
    · refine lv_tableIn (off := 528) (tgt := 561) hx hb dL_law_33 (by omega) (by omega) (by rw [d_9]; rfl) (by decide) ?_
      exact le_9 l S0
    by_cases d_10 : y.toInt = 10
    · refine lv_tableIn (off := 551) (tgt := 584) hx hb dL_law_33 (by omega) (by omega) (by rw [d_10]; rfl) (by decide) ?_
      exact le_10 l S0
    by_cases d_11 : y.toInt = 11
    · refine lv_tableIn (off := 584) (tgt := 617) hx hb dL_law_33 (by omega) (by omega) (by rw [d_11]; rfl) (by decide) ?_
      exact le_11 l S0
    by_cases d_12 : y.toInt = 12
    · refine lv_tableIn (off := 617) (tgt := 650) hx hb dL_law_33 (by omega) (by omega) (by rw [d_12]; rfl) (by decide) ?_
      exact le_12 l S0
    by_cases d_13 : y.toInt = 13
    · refine lv_tableIn (off := 650) (tgt := 683) hx hb dL_law_33 (by omega) (by omega) (by rw [d_13]; rfl) (by decide) ?_
      exact le_13 l S0
    by_cases d_14 : y.toInt = 14
    · refine lv_tableIn (off := 683) (tgt := 716) hx hb dL_law_33 (by omega) (by omega) (by rw [d_14]; rfl) (by decide) ?_
      exact le_14 l S0
    by_cases d_15 : y.toInt = 15
    · refine lv_tableIn (off := 716) (tgt := 749) hx hb dL_law_33 (by omega) (by omega) (by rw [d_15]; rfl) (by decide) ?_
      exact le_15 l S0
    by_cases d_16 : y.toInt = 16
    · refine lv_tableIn (off := 739) (tgt := 772) hx hb dL_law_33 (by omega) (by omega) (by rw [d_16]; rfl) (by decide) ?_
      exact le_16 l S0
    by_cases d_17 : y.toInt = 17
    · refine lv_tableIn (off := 792) (tgt := 825) hx hb dL_law_33 (by omega) (by omega) (by rw [d_17]; rfl) (by decide) ?_
      exact le_17 l S0
    by_cases d_18 : y.toInt = 18
    · refine lv_tableIn (off := 825) (tgt := 858) hx hb dL_law_33 (by omega) (by omega) (by rw [d_18]; rfl) (by decide) ?_
      exact le_18 l S0
    by_cases d_19 : y.toInt = 19
    · refine lv_tableIn (off := 848) (tgt := 881) hx hb dL_law_33 (by omega) (by omega) (by rw [d_19]; rfl) (by decide) ?_
      exact le_19 l S0
    by_cases d_20 : y.toInt = 20
    · refine lv_tableIn (off := 871) (tgt := 904) hx hb dL_law_33 (by omega) (by omega) (by rw [d_20]; rfl) (by decide) ?_
      exact le_20 l S0
    by_cases d_21 : y.toInt = 21
    · refine lv_tableIn (off := 904) (tgt := 937) hx hb dL_law_33 (by omega) (by omega) (by rw [d_21]; rfl) (by decide) ?_
      exact le_21 l S0
    by_cases d_22 : y.toInt = 22
    · refine lv_tableIn (off := 927) (tgt := 960) hx hb dL_law_33 (by omega) (by omega) (by rw [d_22]; rfl) (by decide) ?_
      exact le_22 l S0
    by_cases d_23 : y.toInt = 23
    · refine lv_tableIn (off := 950) (tgt := 983) hx hb dL_law_33 (by omega) (by omega) (by rw [d_23]; rfl) (by decide) ?_
      exact le_23 l S0
    by_cases d_24 : y.toInt = 24
    · refine lv_tableIn (off := 973) (tgt := 1006) hx hb dL_law_33 (by omega) (by omega) (by rw [d_24]; rfl) (by decide) ?_
      exact le_24 l S0
    by_cases d_25 : y.toInt = 25
    · refine lv_tableIn (off := 996) (tgt := 1029) hx hb dL_law_33 (by omega) (by omega) (by rw [d_25]; rfl) (by decide) ?_
      exact le_25 l S0
    by_cases d_26 : y.toInt = 26
    · refine lv_tableIn (off := 1029) (tgt := 1062) hx hb dL_law_33 (by omega) (by omega) (by rw [d_26]; rfl) (by decide) ?_
      exact le_26 l S0
    by_cases d_27 : y.toInt = 27
    · refine lv_tableIn (off := 1062) (tgt := 1095) hx hb dL_law_33 (by omega) (by omega) (by rw [d_27]; rfl) (by decide) ?_
      exact le_27 l S0
    by_cases d_28 : y.toInt = 28
    · refine lv_tableIn (off := 1085) (tgt := 1118) hx hb dL_law_33 (by omega) (by omega) (by rw [d_28]; rfl) (by decide) ?_
      exact le_28 l S0
    by_cases d_29 : y.toInt = 29
    · refine lv_tableIn (off := 1108) (tgt := 1141) hx hb dL_law_33 (by omega) (by omega) (by rw [d_29]; rfl) (by decide) ?_
      exact le_29 l S0
    by_cases d_30 : y.toInt = 30
    · refine lv_tableIn (off := 1131) (tgt := 1164) hx hb dL_law_33 (by omega) (by omega) (by rw [d_30]; rfl) (by decide) ?_
      exact le_30 l S0
    by_cases d_31 : y.toInt = 31
    · refine lv_tableIn (off := 1154) (tgt := 1187) hx hb dL_law_33 (by omega) (by omega) (by rw [d_31]; rfl) (by decide) ?_
      exact le_31 l S0
    by_cases d_32 : y.toInt = 32
    · refine lv_tableIn (off := 1177) (tgt := 1210) hx hb dL_law_33 (by omega) (by omega) (by rw [d_32]; rfl) (by decide) ?_
      exact le_32 l S0
    by_cases d_33 : y.toInt = 33
    · refine lv_tableIn (off := 1200) (tgt := 1233) hx hb dL_law_33 (by omega) (by omega) (by rw [d_33]; rfl) (by decide) ?_
      exact le_33 l S0
    by_cases d_34 : y.toInt = 34
    · refine lv_tableIn (off := 1243) (tgt := 1276) hx hb dL_law_33 (by omega) (by omega) (by rw [d_34]; rfl) (by decide) ?_
      exact le_34 l S0
    by_cases d_35 : y.toInt = 35
    · refine lv_tableIn (off := 1266) (tgt := 1299) hx hb dL_law_33 (by omega) (by omega) (by rw [d_35]; rfl) (by decide) ?_
      exact le_35 l S0
    by_cases d_36 : y.toInt = 36
    · refine lv_tableIn (off := 1289) (tgt := 1322) hx hb dL_law_33 (by omega) (by omega) (by rw [d_36]; rfl) (by decide) ?_
      exact le_36 l S0
    by_cases d_37 : y.toInt = 37
    · refine lv_tableIn (off := 1332) (tgt := 1365) hx hb dL_law_33 (by omega) (by omega) (by rw [d_37]; rfl) (by decide) ?_
      exact le_37 l S0
    by_cases d_38 : y.toInt = 38
    · refine lv_tableIn (off := 1355) (tgt := 1388) hx hb dL_law_33 (by omega) (by omega) (by rw [d_38]; rfl) (by decide) ?_
      exact le_38 l S0
    by_cases d_39 : y.toInt = 39
    · refine lv_tableIn (off := 1388) (tgt := 1421) hx hb dL_law_33 (by omega) (by omega) (by rw [d_39]; rfl) (by decide) ?_
      exact le_39 l S0
    by_cases d_40 : y.toInt = 40
    · refine lv_tableIn (off := 1421) (tgt := 1454) hx hb dL_law_33 (by omega) (by omega) (by rw [d_40]; rfl) (by decide) ?_
      exact le_40 l S0
    by_cases d_41 : y.toInt = 41
    · refine lv_tableIn (off := 1464) (tgt := 1497) hx hb dL_law_33 (by omega) (by omega) (by rw [d_41]; rfl) (by decide) ?_
      exact le_41 l S0
    by_cases d_42 : y.toInt = 42
    · refine lv_tableIn (off := 1497) (tgt := 1530) hx hb dL_law_33 (by omega) (by omega) (by rw [d_42]; rfl) (by decide) ?_
      exact le_42 l S0
    by_cases d_43 : y.toInt = 43
    · refine lv_tableIn (off := 1510) (tgt := 1543) hx hb dL_law_33 (by omega) (by omega) (by rw [d_43]; rfl) (by decide) ?_
      exact le_43 l S0
    by_cases d_44 : y.toInt = 44
    · refine lv_tableIn (off := 1524) (tgt := 1557) hx hb dL_law_33 (by omega) (by omega) (by rw [d_44]; rfl) (by decide) ?_
      exact le_44 l S0
    by_cases d_45 : y.toInt = 45
    · refine lv_tableIn (off := 1538) (tgt := 1571) hx hb dL_law_33 (by omega) (by omega) (by rw [d_45]; rfl) (by decide) ?_
      exact le_45 l S0
    by_cases d_46 : y.toInt = 46
    · refine lv_tableIn (off := 1561) (tgt := 1594) hx hb dL_law_33 (by omega) (by omega) (by rw [d_46]; rfl) (by decide) ?_
      exact le_46 l S0
    by_cases d_47 : y.toInt = 47
    · refine lv_tableIn (off := 1574) (tgt := 1607) hx hb dL_law_33 (by omega) (by omega) (by rw [d_47]; rfl) (by decide) ?_
      exact le_47 l S0
    have d_48 : y.toInt = 48 := by omega
    refine lv_tableIn (off := 1597) (tgt := 1630) hx hb dL_law_33 (by omega) (by omega) (by rw [d_48]; rfl) (by decide) ?_
    exact le_48 l S0
  · have hneg : Int32.ofNat L - 6 < 0 := by
      rcases (show L = 0 ∨ L = 1 ∨ L = 2 ∨ L = 3 ∨ L = 4 ∨ L = 5 by omega) with rfl | rfl | rfl | rfl | rfl | rfl <;> decide
    refine lv_icmp_gt (tgt := 1650) hx hb dL_law_24 (by decide) (fun _ => ?_) (fun c => absurd hneg c)
    refine lv_iconst (v := 1) hx hb dL_law_1650 (by decide) ?_
    refine va_forget (fun q hq => hS.2.2 q hq) ?_
    refine W.widen (k := 600000) (n := 7302250) (Nat.le_of_ble_eq_true rfl) (Nat.le_of_ble_eq_true rfl) ?_
    exact lw_ret hx hb hr hlocks dL_law_1651
set_option maxHeartbeats 4000000 in
theorem lw_walk (l : Launch) (b : Addr) (xs : List Int32) : MetFree l x (headSpec (Jvm.Cond.code x code maxLocals ret :: tables_1) room_1) (lw_P b xs) (fun _ _ _ _ _ => True) lw_Q := by
  refine MetFree.of_bodyS (code := code) (maxLocals := maxLocals) (ret := ret) (by decide) ?_ ?_
  · intro args s m h hn
    obtain ⟨meth, c, h1, h2, h3, h4, h5, h6, -, -⟩ := Cond.code_spec hn (atoms_spec (ws := Jvm.Cond.code x code maxLocals ret :: tables_1) h _ List.mem_cons_self)
    exact ⟨meth, c, h1, h2, h3, h4, h5, h6⟩
  · intro p e s m args below meth c s₁ B hml0 hP _
    obtain ⟨rfl, hx, hbd, hgv⟩ := hP
    obtain ⟨scr, harrAt, hlist, hof, hsmall⟩ := hx
    obtain ⟨hcb, hkn, -, -⟩ := State.arrayAt?_spec harrAt
    have hown : s.vm.findClass R_law = some m.cls := findClass_of_methodNamed B.named
    have hts0 : ∀ c ∈ (Jvm.Cond.code x code maxLocals ret :: tables_1), c.before #[Value.ref b] s = true := atoms_spec (ws := Jvm.Cond.code x code maxLocals ret :: tables_1) B.pre
    have hts : ∀ w ∈ lw_tbl, w.before #[Value.ref b] s = true := k2_hts_sels lw_privs (fun w hw => hts0 w (List.mem_cons_of_mem _ hw)) lw_privs_ok
    have hml : c.maxLocals = 4 := B.maxLocals_eq (hts0 _ List.mem_cons_self)
    have X₀ : Stand p l e room_1 s m #[Value.ref b] below meth c s₁ [] 0 0 := Stand.of_body B
    have hh0 : s₁.heap = s.heap := by rw [B.state]; rfl
    have hsz : scr.slots.size = xs.length := by rw [← Array.length_toList, hlist, List.length_map]
    have hval : ∀ j : Nat, j < xs.length → scr.slots[j]? = some (.int (xs.getD j 0)) := fun j hj => by
      rw [← Array.getElem?_toList, hlist]
      simp [hj]
    have hbl : b < s.heap.size := (Array.getElem?_eq_some_iff.mp hcb).1
    have hX : va_X b xs.length (fun j => xs.getD j 0) s s.heap := ⟨scr, hcb, hof, hkn, hsz, hval⟩
    have K : W p l e room_1 s m #[Value.ref b] below meth c s₁.heap [] 0 0 (lw_Z below #[Value.ref b] s) (entryFrame m ([Value.ref b] : List Value).toArray 4) := by
      rw [hh0]
      exact whole_start l hbd ⟨B.exec, B.bytes, B.returns, hml, hown, hts, hX, hbl, B.notSynchronized, hgv⟩
    obtain ⟨t, a1, o, b1, b2, b3⟩ := K s₁ rfl X₀
    exact ⟨t, o, a1, b1, b2, b3⟩
theorem lw_pre_spec {args : Array Value} {s : State} (h : (Jvm.Cond.and given_1 narrow_1).before args s = true) (hr : rest_1_c.before args s = true) : ∃ (b : Addr) (xs : List Int32), lw_P b xs args s := by
  have hs := flat_of_before _ h
  have hq := flat_of_before _ hr
  have hc : (Cond.count 1).before args s = true := hs _ (by decide +kernel)
  have harr : (Cond.arrayOf (.arg 0) .int).before args s = true := hs _ (by decide +kernel)
  have hle : (Cond.le (.length (.arg 0)) (.int 6)).before args s = true := hs _ (by decide +kernel)
  have hlen : (Cond.isInt (.length (.arg 0))).before args s = true := hq _ (by decide +kernel)
  have hall : (Cond.all (.arg 0) (.isInt (.elem (.arg 0) (.index 0)))).before args s = true := hq _ (by decide +kernel)
  obtain ⟨b, xs, hb, hx⟩ := State.ints_of_pre rfl harr hlen hall
  have hsm : xs.length < 2 ^ 31 := hx.choose_spec.2.2.2
  have hev : (Term.length (.arg 0)).eval args s none [] s = some (.int xs.length.toInt32) := hx.length_eval hb
  have hv := Cond.le_ints hev (show (Term.int 6).eval args s none [] s = some (.int 6) from rfl)
  have hd : xs.length.toInt32 ≤ 6 := by
    simpa [Cond.before, Cond.holds, hv] using hle
  have hN : xs.length ≤ 6 := (Int32.ofNat_le_ofNat hsm (by decide)).mp (show Int32.ofNat xs.length ≤ Int32.ofNat 6 from hd)
  exact ⟨b, xs, Cond.one_arg hc (show args[0]? = some (.ref b) from hb), hx, hN, h⟩
theorem lw_comes (l : Launch) : Comes l x (Jvm.Cond.code x code maxLocals ret :: tables_1) room_1 (fun tb e args s => Calls_1 tb e args s ∧ rest_1 tb e args s ∧ Pre_1 tb e args s)
    (fun _ _ args s o t => lw_Q args s o t) := by
  intro p e ha hc hk s m args below hf hfit hheap happ hpre
  obtain ⟨b, xs, hP⟩ := lw_pre_spec hpre.2.2 hpre.2.1
  obtain ⟨k, o, h1, h2, h3, hQ⟩ := lw_walk l b xs p e ha hc hk s m args below hf ((Spec.applies_iff_loose hf).mp happ).1 hP trivial
  exact ⟨k, o, h1, h2, h3, hQ⟩
theorem lw_frame {s t : State} {o : Outcome} {args : Array Value} (h : Framed s o t [] 600000 7302250) :
    Framed s o t (fieldLocs frame_1_writes args s ++ arrayLocs frame_1_arrays args s ++ staticLocs frame_1_statics s) 600000 7302250 := h
theorem lw_limb (L : Cond) (hL : ∀ (args : Array Value) (s t : State), L.after args s (.returned (some (.int 1))) t = true) :
    ArmFor flags0 classFile x code maxLocals ret World_1 tables_1 room_1 Calls_1 rest_1 Pre_1
      (fun tb e a s o t => postC L tb e a s o t ∧ Framed s o t (fieldLocs frame_1_writes a s ++ arrayLocs frame_1_arrays a s ++ staticLocs frame_1_statics s) 600000 7302250) := by
  intro l _ _ _ p e ha hc hk s m args below hf hfit hheap happ hpre
  obtain ⟨k, o, h1, h2, h3, rfl, hF⟩ := lw_comes l p e ha hc hk s m args below hf hfit hheap happ hpre
  exact ⟨k, _, h1, h2, h3, hL args s _, lw_frame hF⟩
theorem i_vc : Claimed_1_1 ∧ Claimed_1_2 := ⟨lw_limb limb_1_1 (fun args s t => by simp [limb_1_1, Cond.after, Cond.holds, Cond.value]), lw_limb limb_1_2 (fun args s t => Cond.after_iff.mpr (by
  first | (rw [show limb_1_2 = Cond.eq .result (.int 1) from rfl, Cond.eq_ints (x := 1) (y := 1) rfl rfl]; simp; done) | (simp [limb_1_2, Cond.value, Term.eval]; done)))⟩
