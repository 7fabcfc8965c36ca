set_option maxHeartbeats 4000000 in
set_option maxRecDepth 100000 in
theorem le_switch {p : Program} {e : Env} {s : State} {m : MethodId} {below : List Frame} {meth : Method} {c : Code} (l : Launch) {b L : Nat} {xs : Nat → Int32} {dC : Nat → ClassId} {dI : Nat → Nat → Nat} {cs : Nat → ClassId} {tt : Nat} {adx adm : Nat → Nat} {i : Int32} (F1 : lw_F p s m meth c b L xs dC dI cs tt) {mux mum : Nat → Nat → Int32} {H : Heap} {locs : List Loc} {ls : Array Slot} (J0 : lw_J s b dC dI cs adx adm i mux mum H locs ls) (hL : L ≤ 384) (hi : 0 ≤ i.toInt ∧ i.toInt + 6 ≤ L) (KE : ∀ (mux mum : Nat → Nat → Int32) (H : Heap) (locs : List Loc) (ls : Array Slot), lw_J s b dC dI cs adx adm i mux mum H locs ls → W p l e room_1 s m #[Value.ref b] below meth c H locs 178 3099 (lw_Z below #[Value.ref b] s) (F0 m 1641 ls [])) : W p l e room_1 s m #[Value.ref b] below meth c H locs 178 3099 (lw_Z below #[Value.ref b] s) (F0 m 27 ls []) := by
  have F2 := F1
  have J1 := J0
  obtain ⟨C0, hKx, hKm, hz, hks⟩ := F1
  obtain ⟨hx, hb, hr, hml, hown0, hts0, hX, hbl, hlocks, hgv⟩ := C0
  obtain ⟨okx, okm, hsim, hPx, hPm, hD, hS, hl⟩ := J0
  have okx0 := okx
  have okm0 := okm
  have hown : s.vm.findClass RL = some m.cls := hown0
  have hts := hts0
  have hbA : ¬ (fun q : Nat => s.heap.size ≤ q) b := Nat.not_le.mpr hbl
  have hA : ∀ q : Nat, s.heap.size ≤ q → (fun q : Nat => s.heap.size ≤ q) q := fun _ h => h
  refine lv_aload_n hx hb dL_law_27 rfl (lv_at hl 3 rfl) ?_
  refine lv_iload_n hx hb dL_law_28 rfl (lv_at hl 0 rfl) ?_
  refine va_sld hx hb hX hbl hbA hS (show vp_in i L from vi_of (by omega) (by omega)) dL_law_29 ?_
  refine lv_bipush (v := 63) hx hb dL_law_30 (by decide) ?_
  refine lv_iand hx hb dL_law_32 ?_
  refine lv_topi (fun y ey => ?_)
  by_cases c_0 : y.toInt < 0 ∨ 48 < y.toInt
  · refine lv_tableOut (tgt := 1641) hx hb dL_law_33 c_0 (by decide) ?_
    exact KE _ _ _ _ _ J1
  obtain ⟨k, hk, d⟩ : ∃ k : Nat, k < 49 ∧ y.toInt = (k : Int) := ⟨y.toInt.toNat, by omega, by omega⟩
  clear c_0 ey hKx hKm hPx hPm hD hX hbA hgv hts hts0 hks hz hsim okx okm
  by_cases e0 : k = 0
  · subst e0
    refine lv_tableIn (off := 211) (tgt := 244) hx hb dL_law_33 (by rw [d]; decide) (by rw [d]; decide) (by rw [d]; rfl) (by decide) ?_
    exact le_0 l F2 J1 hL hi KE
  by_cases e1 : k = 1
  · subst e1
    refine lv_tableIn (off := 244) (tgt := 277) hx hb dL_law_33 (by rw [d]; decide) (by rw [d]; decide) (by rw [d]; rfl) (by decide) ?_
    exact le_1 l F2 J1 hL hi KE
  by_cases e2 : k = 2
  · subst e2
    refine lv_tableIn (off := 287) (tgt := 320) hx hb dL_law_33 (by rw [d]; decide) (by rw [d]; decide) (by rw [d]; rfl) (by decide) ?_
    exact le_2 l F2 J1 hL hi KE
  by_cases e3 : k = 3
  · subst e3
    refine lv_tableIn (off := 320) (tgt := 353) hx hb dL_law_33 (by rw [d]; decide) (by rw [d]; decide) (by rw [d]; rfl) (by decide) ?_
    exact le_3 l F2 J1 hL hi KE
  by_cases e4 : k = 4
  · subst e4
    refine lv_tableIn (off := 343) (tgt := 376) hx hb dL_law_33 (by rw [d]; decide) (by rw [d]; decide) (by rw [d]; rfl) (by decide) ?_
    exact le_4 l F2 J1 hL hi KE
  by_cases e5 : k = 5
  · subst e5
    refine lv_tableIn (off := 406) (tgt := 439) hx hb dL_law_33 (by rw [d]; decide) (by rw [d]; decide) (by rw [d]; rfl) (by decide) ?_
    exact le_5 l F2 J1 hL hi KE
  by_cases e6 : k = 6
  · subst e6
    refine lv_tableIn (off := 429) (tgt := 462) hx hb dL_law_33 (by rw [d]; decide) (by rw [d]; decide) (by rw [d]; rfl) (by decide) ?_
    exact le_6 l F2 J1 hL hi KE
  by_cases e7 : k = 7
  · subst e7
    refine lv_tableIn (off := 462) (tgt := 495) hx hb dL_law_33 (by rw [d]; decide) (by rw [d]; decide) (by rw [d]; rfl) (by decide) ?_
    exact le_7 l F2 J1 hL hi KE
  by_cases e8 : k = 8
  · subst e8
    refine lv_tableIn (off := 505) (tgt := 538) hx hb dL_law_33 (by rw [d]; decide) (by rw [d]; decide) (by rw [d]; rfl) (by decide) ?_
    exact le_8 l F2 J1 hL hi KE
  by_cases e9 : k = 9
  · subst e9
    refine lv_tableIn (off := 528) (tgt := 561) hx hb dL_law_33 (by rw [d]; decide) (by rw [d]; decide) (by rw [d]; rfl) (by decide) ?_
    exact le_9 l F2 J1 hL hi KE
  by_cases e10 : k = 10
  · subst e10
    refine lv_tableIn (off := 551) (tgt := 584) hx hb dL_law_33 (by rw [d]; decide) (by rw [d]; decide) (by rw [d]; rfl) (by decide) ?_
    exact le_10 l F2 J1 hL hi KE
  by_cases e11 : k = 11
  · subst e11
    refine lv_tableIn (off := 584) (tgt := 617) hx hb dL_law_33 (by rw [d]; decide) (by rw [d]; decide) (by rw [d]; rfl) (by decide) ?_
    exact le_11 l F2 J1 hL hi KE
  by_cases e12 : k = 12
  · subst e12
    refine lv_tableIn (off := 617) (tgt := 650) hx hb dL_law_33 (by rw [d]; decide) (by rw [d]; decide) (by rw [d]; rfl) (by decide) ?_
    exact le_12 l F2 J1 hL hi KE
  by_cases e13 : k = 13
  · subst e13
    refine lv_tableIn (off := 650) (tgt := 683) hx hb dL_law_33 (by rw [d]; decide) (by rw [d]; decide) (by rw [d]; rfl) (by decide) ?_
    exact le_13 l F2 J1 hL hi KE
  by_cases e14 : k = 14
  · subst e14
    refine lv_tableIn (off := 683) (tgt := 716) hx hb dL_law_33 (by rw [d]; decide) (by rw [d]; decide) (by rw [d]; rfl) (by decide) ?_
    exact le_14 l F2 J1 hL hi KE
  by_cases e15 : k = 15
  · subst e15
    refine lv_tableIn (off := 716) (tgt := 749) hx hb dL_law_33 (by rw [d]; decide) (by rw [d]; decide) (by rw [d]; rfl) (by decide) ?_
    exact le_15 l F2 J1 hL hi KE
  by_cases e16 : k = 16
  · subst e16
    refine lv_tableIn (off := 739) (tgt := 772) hx hb dL_law_33 (by rw [d]; decide) (by rw [d]; decide) (by rw [d]; rfl) (by decide) ?_
    exact le_16 l F2 J1 hL hi KE
  by_cases e17 : k = 17
  · subst e17
    refine lv_tableIn (off := 792) (tgt := 825) hx hb dL_law_33 (by rw [d]; decide) (by rw [d]; decide) (by rw [d]; rfl) (by decide) ?_
    exact le_17 l F2 J1 hL hi KE
  by_cases e18 : k = 18
  · subst e18
    refine lv_tableIn (off := 825) (tgt := 858) hx hb dL_law_33 (by rw [d]; decide) (by rw [d]; decide) (by rw [d]; rfl) (by decide) ?_
    exact le_18 l F2 J1 hL hi KE
  by_cases e19 : k = 19
  · subst e19
    refine lv_tableIn (off := 848) (tgt := 881) hx hb dL_law_33 (by rw [d]; decide) (by rw [d]; decide) (by rw [d]; rfl) (by decide) ?_
    exact le_19 l F2 J1 hL hi KE
  by_cases e20 : k = 20
  · subst e20
    refine lv_tableIn (off := 871) (tgt := 904) hx hb dL_law_33 (by rw [d]; decide) (by rw [d]; decide) (by rw [d]; rfl) (by decide) ?_
    exact le_20 l F2 J1 hL hi KE
  by_cases e21 : k = 21
  · subst e21
    refine lv_tableIn (off := 904) (tgt := 937) hx hb dL_law_33 (by rw [d]; decide) (by rw [d]; decide) (by rw [d]; rfl) (by decide) ?_
    exact le_21 l F2 J1 hL hi KE
  by_cases e22 : k = 22
  · subst e22
    refine lv_tableIn (off := 927) (tgt := 960) hx hb dL_law_33 (by rw [d]; decide) (by rw [d]; decide) (by rw [d]; rfl) (by decide) ?_
    exact le_22 l F2 J1 hL hi KE
  by_cases e23 : k = 23
  · subst e23
    refine lv_tableIn (off := 950) (tgt := 983) hx hb dL_law_33 (by rw [d]; decide) (by rw [d]; decide) (by rw [d]; rfl) (by decide) ?_
    exact le_23 l F2 J1 hL hi KE
  by_cases e24 : k = 24
  · subst e24
    refine lv_tableIn (off := 973) (tgt := 1006) hx hb dL_law_33 (by rw [d]; decide) (by rw [d]; decide) (by rw [d]; rfl) (by decide) ?_
    exact le_24 l F2 J1 hL hi KE
  by_cases e25 : k = 25
  · subst e25
    refine lv_tableIn (off := 996) (tgt := 1029) hx hb dL_law_33 (by rw [d]; decide) (by rw [d]; decide) (by rw [d]; rfl) (by decide) ?_
    exact le_25 l F2 J1 hL hi KE
  by_cases e26 : k = 26
  · subst e26
    refine lv_tableIn (off := 1029) (tgt := 1062) hx hb dL_law_33 (by rw [d]; decide) (by rw [d]; decide) (by rw [d]; rfl) (by decide) ?_
    exact le_26 l F2 J1 hL hi KE
  by_cases e27 : k = 27
  · subst e27
    refine lv_tableIn (off := 1062) (tgt := 1095) hx hb dL_law_33 (by rw [d]; decide) (by rw [d]; decide) (by rw [d]; rfl) (by decide) ?_
    exact le_27 l F2 J1 hL hi KE
  by_cases e28 : k = 28
  · subst e28
    refine lv_tableIn (off := 1085) (tgt := 1118) hx hb dL_law_33 (by rw [d]; decide) (by rw [d]; decide) (by rw [d]; rfl) (by decide) ?_
    exact le_28 l F2 J1 hL hi KE
  by_cases e29 : k = 29
  · subst e29
    refine lv_tableIn (off := 1108) (tgt := 1141) hx hb dL_law_33 (by rw [d]; decide) (by rw [d]; decide) (by rw [d]; rfl) (by decide) ?_
    exact le_29 l F2 J1 hL hi KE
  by_cases e30 : k = 30
  · subst e30
    refine lv_tableIn (off := 1131) (tgt := 1164) hx hb dL_law_33 (by rw [d]; decide) (by rw [d]; decide) (by rw [d]; rfl) (by decide) ?_
    exact le_30 l F2 J1 hL hi KE
  by_cases e31 : k = 31
  · subst e31
    refine lv_tableIn (off := 1154) (tgt := 1187) hx hb dL_law_33 (by rw [d]; decide) (by rw [d]; decide) (by rw [d]; rfl) (by decide) ?_
    exact le_31 l F2 J1 hL hi KE
  by_cases e32 : k = 32
  · subst e32
    refine lv_tableIn (off := 1177) (tgt := 1210) hx hb dL_law_33 (by rw [d]; decide) (by rw [d]; decide) (by rw [d]; rfl) (by decide) ?_
    exact le_32 l F2 J1 hL hi KE
  by_cases e33 : k = 33
  · subst e33
    refine lv_tableIn (off := 1200) (tgt := 1233) hx hb dL_law_33 (by rw [d]; decide) (by rw [d]; decide) (by rw [d]; rfl) (by decide) ?_
    exact le_33 l F2 J1 hL hi KE
  by_cases e34 : k = 34
  · subst e34
    refine lv_tableIn (off := 1243) (tgt := 1276) hx hb dL_law_33 (by rw [d]; decide) (by rw [d]; decide) (by rw [d]; rfl) (by decide) ?_
    exact le_34 l F2 J1 hL hi KE
  by_cases e35 : k = 35
  · subst e35
    refine lv_tableIn (off := 1266) (tgt := 1299) hx hb dL_law_33 (by rw [d]; decide) (by rw [d]; decide) (by rw [d]; rfl) (by decide) ?_
    exact le_35 l F2 J1 hL hi KE
  by_cases e36 : k = 36
  · subst e36
    refine lv_tableIn (off := 1289) (tgt := 1322) hx hb dL_law_33 (by rw [d]; decide) (by rw [d]; decide) (by rw [d]; rfl) (by decide) ?_
    exact le_36 l F2 J1 hL hi KE
  by_cases e37 : k = 37
  · subst e37
    refine lv_tableIn (off := 1332) (tgt := 1365) hx hb dL_law_33 (by rw [d]; decide) (by rw [d]; decide) (by rw [d]; rfl) (by decide) ?_
    exact le_37 l F2 J1 hL hi KE
  by_cases e38 : k = 38
  · subst e38
    refine lv_tableIn (off := 1355) (tgt := 1388) hx hb dL_law_33 (by rw [d]; decide) (by rw [d]; decide) (by rw [d]; rfl) (by decide) ?_
    exact le_38 l F2 J1 hL hi KE
  by_cases e39 : k = 39
  · subst e39
    refine lv_tableIn (off := 1388) (tgt := 1421) hx hb dL_law_33 (by rw [d]; decide) (by rw [d]; decide) (by rw [d]; rfl) (by decide) ?_
    exact le_39 l F2 J1 hL hi KE
  by_cases e40 : k = 40
  · subst e40
    refine lv_tableIn (off := 1421) (tgt := 1454) hx hb dL_law_33 (by rw [d]; decide) (by rw [d]; decide) (by rw [d]; rfl) (by decide) ?_
    exact le_40 l F2 J1 hL hi KE
  by_cases e41 : k = 41
  · subst e41
    refine lv_tableIn (off := 1464) (tgt := 1497) hx hb dL_law_33 (by rw [d]; decide) (by rw [d]; decide) (by rw [d]; rfl) (by decide) ?_
    exact le_41 l F2 J1 hL hi KE
  by_cases e42 : k = 42
  · subst e42
    refine lv_tableIn (off := 1497) (tgt := 1530) hx hb dL_law_33 (by rw [d]; decide) (by rw [d]; decide) (by rw [d]; rfl) (by decide) ?_
    exact le_42 l F2 J1 hL hi KE
  by_cases e43 : k = 43
  · subst e43
    refine lv_tableIn (off := 1510) (tgt := 1543) hx hb dL_law_33 (by rw [d]; decide) (by rw [d]; decide) (by rw [d]; rfl) (by decide) ?_
    exact le_43 l F2 J1 hL hi KE
  by_cases e44 : k = 44
  · subst e44
    refine lv_tableIn (off := 1523) (tgt := 1556) hx hb dL_law_33 (by rw [d]; decide) (by rw [d]; decide) (by rw [d]; rfl) (by decide) ?_
    exact le_44 l F2 J1 hL hi KE
  by_cases e45 : k = 45
  · subst e45
    refine lv_tableIn (off := 1536) (tgt := 1569) hx hb dL_law_33 (by rw [d]; decide) (by rw [d]; decide) (by rw [d]; rfl) (by decide) ?_
    exact le_45 l F2 J1 hL hi KE
  by_cases e46 : k = 46
  · subst e46
    refine lv_tableIn (off := 1559) (tgt := 1592) hx hb dL_law_33 (by rw [d]; decide) (by rw [d]; decide) (by rw [d]; rfl) (by decide) ?_
    exact le_46 l F2 J1 hL hi KE
  by_cases e47 : k = 47
  · subst e47
    refine lv_tableIn (off := 1572) (tgt := 1605) hx hb dL_law_33 (by rw [d]; decide) (by rw [d]; decide) (by rw [d]; rfl) (by decide) ?_
    exact le_47 l F2 J1 hL hi KE
  by_cases e48 : k = 48
  · subst e48
    refine lv_tableIn (off := 1595) (tgt := 1628) hx hb dL_law_33 (by rw [d]; decide) (by rw [d]; decide) (by rw [d]; rfl) (by decide) ?_
    exact le_48 l F2 J1 hL hi KE
  exact absurd hk (by clear d; omega)
set_option maxHeartbeats 4000000 in
set_option maxRecDepth 100000 in
theorem le_loop {p : Program} {e : Env} {s : State} {m : MethodId} {below : List Frame} {meth : Method} {c : Code} (l : Launch) {b L : Nat} {xs : Nat → Int32} {dC : Nat → ClassId} {dI : Nat → Nat → Nat} {cs : Nat → ClassId} {tt : Nat} {adx adm : Nat → Nat} {i : Int32} (F1 : lw_F p s m meth c b L xs dC dI cs tt) (hL : L ≤ 384) (n : Nat) {mux mum : Nat → Nat → Int32} {H : Heap} {locs : List Loc} {ls : Array Slot} (hn : (400 - i.toInt).toNat < n) (hi : 0 ≤ i.toInt ∧ i.toInt ≤ 390) (J0 : lw_J s b dC dI cs adx adm i mux mum H locs ls) : W p l e room_1 s m #[Value.ref b] below meth c H locs 178 3099 (lw_Z below #[Value.ref b] s) (F0 m 18 ls []) := by
  induction n generalizing i mux mum H locs ls with
  | zero => exact absurd hn (Nat.not_lt_zero _)
  | succ n ih =>
    have F2 := F1
    have J1 := J0
    obtain ⟨C0, hKx, hKm, hz, hks⟩ := F1
    obtain ⟨hx, hb, hr, hml, hown0, hts0, hX, hbl, hlocks, hgv⟩ := C0
    obtain ⟨okx, okm, hsim, hPx, hPm, hD, hS, hl⟩ := J0
    have okx0 := okx
    have okm0 := okm
    have hown : s.vm.findClass RL = some m.cls := hown0
    have hts := hts0
    have hbA : ¬ (fun q : Nat => s.heap.size ≤ q) b := Nat.not_le.mpr hbl
    have hA : ∀ q : Nat, s.heap.size ≤ q → (fun q : Nat => s.heap.size ≤ q) q := fun _ h => h
    refine lv_iload_n hx hb dL_law_18 rfl (lv_at hl 0 rfl) ?_
    refine lv_aload_n hx hb dL_law_19 rfl (lv_at hl 3 rfl) ?_
    refine va_slen hx hb hX hbl hbA hS dL_law_20 ?_
    refine lv_bipush (v := 6) hx hb dL_law_21 (by decide) ?_
    refine lv_isub hx hb dL_law_23 ?_
    refine lv_topi (fun y ey => ?_)
    have ay : y.toInt = (L : Int) - 6 := by
      have h1 : (Int32.ofNat L).toInt = (L : Int) := nI_toInt (by omega)
      rw [ey]; exact tI_sub h1 (rfl : (6 : Int32).toInt = _) (by show _ ≤ (L : Int) - (6 : Int); omega) (by show (L : Int) - (6 : Int) < _; omega)
    refine lv_icmp_gt (tgt := 1647) hx hb dL_law_24 (by decide) (fun c9 => ?_) (fun c9 => ?_)
    · refine lv_iconst (v := 1) hx hb dL_law_1647 (by decide) ?_
      refine va_forget (fun q hq => hS.2.2 q hq) ?_
      refine W.widen (k := 600000) (n := 7302250) (Nat.le_of_ble_eq_true rfl) (Nat.le_of_ble_eq_true rfl) ?_
      exact lw_ret hx hb hr hlocks dL_law_1648
    · have c9 := il_nlt c9
      refine le_switch l F2 J1 hL ⟨by omega, by omega⟩ (fun mux2 mum2 H locs ls J2 => ?_)
      obtain ⟨okx, okm, hsim, hPx, hPm, hD, hS, hl⟩ := J2
      refine lv_iinc (v := (i + 6)) (lv' := [(3, .int (i + 6)), (2, .ref (adm 0)), (1, .ref (adx 0)), (0, .ref b)]) hx hb dL_law_1641 hl (k := 0) rfl rfl (by decide) rfl (fun ls hl => ?_)
      refine lv_goto (tgt := 18) hx hb dL_law_1644 (by decide) ?_
      have ai : (i + 6 : Int32).toInt = i.toInt + 6 := tI_add rfl (rfl : (6 : Int32).toInt = _) (by show _ ≤ i.toInt + (6 : Int); omega) (by show i.toInt + (6 : Int) < _; omega)
      exact ih (by rw [ai]; omega) (by rw [ai]; omega) ⟨okx, okm, hsim, hPx, hPm, hD, hS, hl⟩
