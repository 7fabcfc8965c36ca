set_option maxHeartbeats 4000000 in
set_option maxRecDepth 100000 in
theorem ls_kq {p : Program} {s : State} {m : MethodId} {meth : Method} {c : Code} {b L : Nat} {xs : Nat → Int32} (C0 : lw_At p s m meth c b L xs) : kq s := by
  obtain ⟨hx, hb, hr, hml, hown0, hts, hX, hbl, hlocks, hgv⟩ := C0
  have k_0 := va_Nw.of rfl (A := #[Value.ref b]) (hts (.methodLinkNest RX11 29 yX10_init "DearLetters") ((tbq_at 1 34 (by decide +kernel))))
  have k_1 := va_Nw.of rfl (A := #[Value.ref b]) (hts (.methodLinkNest RX11 36 yX4_init "DearLetters") ((tbq_at 1 187 (by decide +kernel))))
  have k_2 := va_Nw.of rfl (A := #[Value.ref b]) (hts (.methodLinkNest RX11 50 yX5_init "DearLetters") ((tbq_at 2 16 (by decide +kernel))))
  have k_3 := va_Nw.of rfl (A := #[Value.ref b]) (hts (.methodLinkNest RX11 57 yX1_init "DearLetters") ((tbq_at 2 100 (by decide +kernel))))
  have k_4 := va_Nw.of rfl (A := #[Value.ref b]) (hts (.methodLinkNest RX11 66 yX6_init "DearLetters") ((tbq_at 2 125 (by decide +kernel))))
  have k_5 := va_Nw.of rfl (A := #[Value.ref b]) (hts (.methodLinkNest RX11 67 yX9_init "DearLetters") ((tbq_at 2 141 (by decide +kernel))))
  have k_6 := va_Nw.of rfl (A := #[Value.ref b]) (hts (.methodLinkNest RX2 17 yX7_init "DearLetters") ((tbq_at 1 219 (by decide +kernel))))
  have k_7 := va_Nw.of rfl (A := #[Value.ref b]) (hts (.methodLinkNest RX5 23 yX0_init "DearLetters") ((tbq_at 2 22 (by decide +kernel))))
  have k_8 := va_Nw.of rfl (A := #[Value.ref b]) (hts (.methodLinkNest RX8 21 yX3_init "DearLetters") ((tbq_at 1 47 (by decide +kernel))))
  have k_9 := va_AO.of (A := #[Value.ref b]) (hts (.arrayOver (.object RX6)) ((tbq_at 1 27 (by decide +kernel))))
  have k_10 := va_AO.of (A := #[Value.ref b]) (hts (.arrayOver (.object RX9)) ((tbq_at 1 29 (by decide +kernel))))
  have k_11 := va_AO.of (A := #[Value.ref b]) (hts (.arrayOver (.object RX8)) ((tbq_at 1 31 (by decide +kernel))))
  have k_12 := va_AO.of (A := #[Value.ref b]) (hts (.arrayOver (.object RX3)) ((tbq_at 1 45 (by decide +kernel))))
  have k_13 := va_AO.of (A := #[Value.ref b]) (hts (.arrayOver (.object RX7)) ((tbq_at 1 217 (by decide +kernel))))
  exact ⟨k_0, k_1, k_2, k_3, k_4, k_5, k_6, k_7, k_8, k_9, k_10, k_11, k_12, k_13⟩
set_option maxHeartbeats 4000000 in
set_option maxRecDepth 100000 in
theorem ls_kz {p : Program} {s : State} {m : MethodId} {meth : Method} {c : Code} {b L : Nat} {xs : Nat → Int32} (C0 : lw_At p s m meth c b L xs) : kz s := by
  obtain ⟨hx, hb, hr, hml, hown0, hts, hX, hbl, hlocks, hgv⟩ := C0
  have k_0 := va_Nw.of rfl (A := #[Value.ref b]) (hts (.methodLinkNest RX1 49 yX11_priceAsked "DearLetters") ((tbq_at 4 176 (by decide +kernel))))
  have k_1 := va_Nw.of rfl (A := #[Value.ref b]) (hts (.methodLinkNest RX1 68 yX11_hasBit "DearLetters") ((tbq_at 4 178 (by decide +kernel))))
  have k_2 := va_Nw.of rfl (A := #[Value.ref b]) (hts (.methodLinkNest RX10 41 yX11_hasBit "DearLetters") ((tbq_at 3 85 (by decide +kernel))))
  have k_3 := va_Nw.of rfl (A := #[Value.ref b]) (hts (.methodLinkNest RX10 86 yX11_isOfKind "DearLetters") ((tbq_at 3 112 (by decide +kernel))))
  have k_4 := va_Nw.of rfl (A := #[Value.ref b]) (hts (.methodLinkNest RX10 89 yX11_priceAsked "DearLetters") ((tbq_at 3 166 (by decide +kernel))))
  have k_5 := va_Nw.of rfl (A := #[Value.ref b]) (hts (.methodLinkNest RX11 29 yX10_init "DearLetters") ((tbq_at 1 34 (by decide +kernel))))
  have k_6 := va_Nw.of rfl (A := #[Value.ref b]) (hts (.methodLinkNest RX11 36 yX4_init "DearLetters") ((tbq_at 1 187 (by decide +kernel))))
  have k_7 := va_Nw.of rfl (A := #[Value.ref b]) (hts (.methodLinkNest RX11 50 yX5_init "DearLetters") ((tbq_at 2 16 (by decide +kernel))))
  have k_8 := va_Nw.of rfl (A := #[Value.ref b]) (hts (.methodLinkNest RX11 57 yX1_init "DearLetters") ((tbq_at 2 100 (by decide +kernel))))
  have k_9 := va_Nw.of rfl (A := #[Value.ref b]) (hts (.methodLinkNest RX11 66 yX6_init "DearLetters") ((tbq_at 2 125 (by decide +kernel))))
  have k_10 := va_Nw.of rfl (A := #[Value.ref b]) (hts (.methodLinkNest RX11 67 yX9_init "DearLetters") ((tbq_at 2 141 (by decide +kernel))))
  have k_11 := va_Nw.of rfl (A := #[Value.ref b]) (hts (.methodLinkNest RX2 17 yX7_init "DearLetters") ((tbq_at 1 219 (by decide +kernel))))
  have k_12 := va_Nw.of rfl (A := #[Value.ref b]) (hts (.methodLinkNest RX5 23 yX0_init "DearLetters") ((tbq_at 2 22 (by decide +kernel))))
  have k_13 := va_Nw.of rfl (A := #[Value.ref b]) (hts (.methodLinkNest RX5 135 yX11_priceAsked "DearLetters") ((tbq_at 4 30 (by decide +kernel))))
  have k_14 := va_Nw.of rfl (A := #[Value.ref b]) (hts (.methodLinkNest RX5 146 yX11_hasBit "DearLetters") ((tbq_at 4 35 (by decide +kernel))))
  have k_15 := va_Nw.of rfl (A := #[Value.ref b]) (hts (.methodLinkNest RX8 21 yX3_init "DearLetters") ((tbq_at 1 47 (by decide +kernel))))
  have k_16 := va_Nw.of rfl (A := #[Value.ref b]) (hts (.fieldLinkNest RX4 54 RX11 "KIND_SIGNS" "[C" "DearLetters") ((tbq_at 3 58 (by decide +kernel))))
  exact ⟨k_0, k_1, k_2, k_3, k_4, k_5, k_6, k_7, k_8, k_9, k_10, k_11, k_12, k_13, k_14, k_15, k_16⟩
set_option maxHeartbeats 4000000 in
set_option maxRecDepth 100000 in
theorem ls_K {p : Program} {s : State} {m : MethodId} {meth : Method} {c : Code} {b L : Nat} {xs : Nat → Int32} (C0 : lw_At p s m meth c b L xs) : ∃ (dC : Nat → ClassId) (dI : Nat → Nat → Nat), va_K (dC, dI) vwCl [] s := by
  obtain ⟨hx, hb, hr, hml, hown0, hts, hX, hbl, hlocks, hgv⟩ := C0
  have hts0 := hts
  obtain ⟨c0, i0, hKn0⟩ := u_known (C := RX0) (T := TX0) (N := 4) (n := 4) hts0 inX0 (hts (.instantiable RX0 4) (tbq_at 2 21 (by decide +kernel)))
  obtain ⟨c1, i1, hKn1⟩ := u_known (C := RX1) (T := TX1) (N := 5) (n := 5) hts0 inX1 (hts (.instantiable RX1 5) (tbq_at 2 99 (by decide +kernel)))
  obtain ⟨c2, i2, hKn2⟩ := u_known (C := RX2) (T := TX2) (N := 2) (n := 2) hts0 inX2 (hts (.instantiable RX2 2) (tbq_at 1 211 (by decide +kernel)))
  obtain ⟨c3, i3, hKn3⟩ := u_known (C := RX3) (T := TX3) (N := 10) (n := 10) hts0 inX3 (hts (.instantiable RX3 10) (tbq_at 1 46 (by decide +kernel)))
  obtain ⟨c4, i4, hKn4⟩ := u_known (C := RX4) (T := TX4) (N := 6) (n := 6) hts0 inX4 (hts (.instantiable RX4 6) (tbq_at 1 186 (by decide +kernel)))
  obtain ⟨c5, i5, hKn5⟩ := u_known (C := RX5) (T := TX5) (N := 15) (n := 15) hts0 inX5 (hts (.instantiable RX5 15) (tbq_at 2 15 (by decide +kernel)))
  obtain ⟨c6, i6, hKn6⟩ := u_known (C := RX6) (T := TX6) (N := 2) (n := 2) hts0 inX6 (hts (.instantiable RX6 2) (tbq_at 2 124 (by decide +kernel)))
  obtain ⟨c7, i7, hKn7⟩ := u_known (C := RX7) (T := TX7) (N := 7) (n := 7) hts0 inX7 (hts (.instantiable RX7 7) (tbq_at 1 218 (by decide +kernel)))
  obtain ⟨c8, i8, hKn8⟩ := u_known (C := RX8) (T := TX8) (N := 6) (n := 6) hts0 inX8 (hts (.instantiable RX8 6) (tbq_at 1 39 (by decide +kernel)))
  obtain ⟨c9, i9, hKn9⟩ := u_known (C := RX9) (T := TX9) (N := 2) (n := 2) hts0 inX9 (hts (.instantiable RX9 2) (tbq_at 2 140 (by decide +kernel)))
  obtain ⟨c10, i10, hKn10⟩ := u_known (C := RX10) (T := TX10) (N := 8) (n := 8) hts0 inX10 (hts (.instantiable RX10 8) (tbq_at 1 33 (by decide +kernel)))
  obtain ⟨c11, i11, hKn11⟩ := u_known (C := RX11) (T := TX11) (N := 11) (n := 11) hts0 inX11 (hts (.instantiable RX11 11) (tbq_at 1 19 (by decide +kernel)))
  obtain ⟨c12, i12, hKn12⟩ := u_known (C := RX12) (T := TX12) (N := 46) (n := 46) hts0 inX12 (hts (.instantiable RX12 46) (tbq_at 5 36 (by decide +kernel)))
  refine ⟨fun k => if k = 0 then c0 else if k = 1 then c1 else if k = 2 then c2 else if k = 3 then c3 else if k = 4 then c4 else if k = 5 then c5 else if k = 6 then c6 else if k = 7 then c7 else if k = 8 then c8 else if k = 9 then c9 else if k = 10 then c10 else if k = 11 then c11 else c12, fun k => if k = 0 then i0 else if k = 1 then i1 else if k = 2 then i2 else if k = 3 then i3 else if k = 4 then i4 else if k = 5 then i5 else if k = 6 then i6 else if k = 7 then i7 else if k = 8 then i8 else if k = 9 then i9 else if k = 10 then i10 else if k = 11 then i11 else i12, ?_, fun k q h => by simp at h⟩
  intro k q hq
  match k, hq with
  | 0, hq => cases hq; exact hKn0
  | 1, hq => cases hq; exact hKn1
  | 2, hq => cases hq; exact hKn2
  | 3, hq => cases hq; exact hKn3
  | 4, hq => cases hq; exact hKn4
  | 5, hq => cases hq; exact hKn5
  | 6, hq => cases hq; exact hKn6
  | 7, hq => cases hq; exact hKn7
  | 8, hq => cases hq; exact hKn8
  | 9, hq => cases hq; exact hKn9
  | 10, hq => cases hq; exact hKn10
  | 11, hq => cases hq; exact hKn11
  | 12, hq => cases hq; exact hKn12
  | k + 13, hq => simp [vwCl] at hq
set_option maxHeartbeats 4000000 in
set_option maxRecDepth 100000 in
theorem ls_ty {p : Program} {s : State} {m : MethodId} {meth : Method} {c : Code} {b L : Nat} {xs : Nat → Int32} (C0 : lw_At p s m meth c b L xs) {dC : Nat → ClassId} {dI : Nat → Nat → Nat} (hK : va_K (dC, dI) vwCl [] s) : ∃ cs : Nat → ClassId, va_K (dC, dI) vwCl (tyW cs) s ∧ va_K (dC, dI) vwCl (tyM cs) s := by
  have hq := ls_kq C0
  obtain ⟨hx, hb, hr, hml, hown0, hts, hX, hbl, hlocks, hgv⟩ := C0
  obtain ⟨a0, p0, q0⟩ := ka_int (hts (.arrayClass .int) ((tbq_at 1 102 (by decide +kernel))))
  obtain ⟨a1, p1, q1⟩ := ka_byte (hts (.arrayClass .byte) ((tbq_at 2 156 (by decide +kernel))))
  obtain ⟨a2, p2, q2⟩ := ka_obj (hq.2.2.2.2.2.2.2.2.2.1)
  obtain ⟨a3, p3, q3⟩ := ka_obj (hq.2.2.2.2.2.2.2.2.2.2.1)
  obtain ⟨a4, p4, q4⟩ := ka_obj (hq.2.2.2.2.2.2.2.2.2.2.2.1)
  obtain ⟨a5, p5, q5⟩ := ka_obj (hq.2.2.2.2.2.2.2.2.2.2.2.2.1)
  obtain ⟨a6, p6, q6⟩ := ka_obj (hq.2.2.2.2.2.2.2.2.2.2.2.2.2)
  refine ⟨fun k => if k = 0 then a0 else if k = 1 then a1 else if k = 2 then a2 else if k = 3 then a3 else if k = 4 then a4 else if k = 5 then a5 else a6, ⟨hK.1, ?_⟩, ⟨hK.1, ?_⟩⟩
  · intro k q hq
    match k, hq with
    | 0, hq => cases hq; exact ⟨p0, q0⟩
    | 1, hq => cases hq; exact ⟨p1, q1⟩
    | 2, hq => cases hq; exact ⟨p2, q2⟩
    | 3, hq => cases hq; exact ⟨p3, q3⟩
    | 4, hq => cases hq; exact ⟨p4, q4⟩
    | 5, hq => cases hq; exact ⟨p5, q5⟩
    | 6, hq => cases hq; exact ⟨p6, q6⟩
    | k + 7, hq => simp [tyW] at hq
  · intro k q hq
    match k, hq with
    | 0, hq => cases hq; exact ⟨p0, q0⟩
    | k + 1, hq => simp [tyM] at hq
set_option maxHeartbeats 4000000 in
set_option maxRecDepth 100000 in
theorem ls_ks {p : Program} {s : State} {m : MethodId} {meth : Method} {c : Code} {b L : Nat} {xs : Nat → Int32} (C0 : lw_At p s m meth c b L xs) : ∃ tt : Nat, ks (fun q : Nat => s.heap.size ≤ q) tt s.heap s := by
  obtain ⟨hx, hb, hr, hml, hown0, hts, hX, hbl, hlocks, hgv⟩ := C0
  have hs := flat_of_before _ hgv
  have hA : ∀ a : Nat, a < s.heap.size → ¬ (fun q : Nat => s.heap.size ≤ q) a := fun a h => Nat.not_le.mpr h
  have h1 : (Cond.arrayOf (Term.static "DearLetters" "KIND_SIGNS" "[C") .char).before #[Value.ref b] s = true := hs _ (by decide +kernel)
  have h2 : (Cond.eq (.length (Term.static "DearLetters" "KIND_SIGNS" "[C")) (.int 6)).before #[Value.ref b] s = true := hs _ (by decide +kernel)
  have e0 : (Cond.eq (.elem (Term.static "DearLetters" "KIND_SIGNS" "[C") (.int 0)) (.int 98)).before #[Value.ref b] s = true := hs _ (by decide +kernel)
  have e1 : (Cond.eq (.elem (Term.static "DearLetters" "KIND_SIGNS" "[C") (.int 1)) (.int 109)).before #[Value.ref b] s = true := hs _ (by decide +kernel)
  have e2 : (Cond.eq (.elem (Term.static "DearLetters" "KIND_SIGNS" "[C") (.int 2)) (.int 102)).before #[Value.ref b] s = true := hs _ (by decide +kernel)
  have e3 : (Cond.eq (.elem (Term.static "DearLetters" "KIND_SIGNS" "[C") (.int 3)) (.int 114)).before #[Value.ref b] s = true := hs _ (by decide +kernel)
  have e4 : (Cond.eq (.elem (Term.static "DearLetters" "KIND_SIGNS" "[C") (.int 4)) (.int 117)).before #[Value.ref b] s = true := hs _ (by decide +kernel)
  have e5 : (Cond.eq (.elem (Term.static "DearLetters" "KIND_SIGNS" "[C") (.int 5)) (.int 115)).before #[Value.ref b] s = true := hs _ (by decide +kernel)
  obtain ⟨t, ht, hT⟩ := va_Tof (N := 6) (f := fun j => .int (([98, 109, 102, 114, 117, 115] : List Int32).getD j 0)) (A := (fun q : Nat => s.heap.size ≤ q)) (by decide) h1 (va_eqt h2) (fun j hj => match j, hj with | 0, _ => va_eqt e0 | 1, _ => va_eqt e1 | 2, _ => va_eqt e2 | 3, _ => va_eqt e3 | 4, _ => va_eqt e4 | 5, _ => va_eqt e5 | _ + 6, hj => absurd hj (by omega)) hA
  exact ⟨t, va_Zof (hts (.laysStatic RX11 "KIND_SIGNS" "[C") ((tbq_at 3 59 (by decide +kernel)))) (hts (.initialized RX11) ((tbq_at 1 1 (by decide +kernel)))) ht hA, hT⟩
