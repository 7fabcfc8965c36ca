set_option maxHeartbeats 4000000 in
set_option maxRecDepth 100000 in
theorem le_switch {p : Program} {e : Env} {s : State} {m : MethodId} {below : List Frame} {meth : Method} {c : Code} (l : Launch) {b : Nat} {xs : Nat → Int32} {dC : Nat → ClassId} {dI : Nat → Nat → Nat} {csx csm : Nat → ClassId} {adx adm : Nat → Nat} {H : Heap} {locs : List Loc} {ls : Array Slot} (S0 : lw_S p s m meth c b xs dC dI csx csm adx adm H locs ls) : W p l e room_1 s m #[Value.ref b] below meth c H locs 178 3099 (lw_Z below #[Value.ref b] s) (F0 m 27 ls []) := by
  have S1 := S0
  obtain ⟨C0, hKx, hKm, hPx, hPm, hD, hS, hl⟩ := S0
  have C1 := C0
  obtain ⟨hx, hb, hr, hml, hown0, hts, hX, hbl, hlocks, hgv⟩ := C0
  have hbA : ¬ (fun q : Nat => s.heap.size ≤ q) b := Nat.not_le.mpr hbl
  refine lv_aload_n hx hb dL_law_27 rfl (lv_at hl 3 rfl) ?_
  refine lv_iload_n hx hb dL_law_28 rfl (lv_at hl 0 rfl) ?_
  refine va_sld hx hb hX hbl hbA hS (show vp_in 0 6 by unfold vp_in; decide) dL_law_29 ?_
  refine lv_bipush (v := 63) hx hb dL_law_30 (by decide) ?_
  refine lv_iand hx hb dL_law_32 ?_
  refine lv_topi (fun y ey => ?_)
  by_cases c_0 : y.toInt < 0 ∨ 48 < y.toInt
  · refine lv_tableOut (tgt := 1644) hx hb dL_law_33 c_0 (by decide) ?_
    exact le_end l C1 hS hl
  obtain ⟨k, hk, d⟩ : ∃ k : Nat, k < 49 ∧ y.toInt = (k : Int) := ⟨y.toInt.toNat, by omega, by omega⟩
  clear c_0 ey hKx hKm hPx hPm hD hX hbA hgv hts
  by_cases e0 : k = 0
  · subst e0
    refine lv_tableIn (off := 211) (tgt := 244) hx hb dL_law_33 (by rw [d]; decide) (by rw [d]; decide) (by rw [d]; rfl) (by decide) ?_
    exact le_0 l S1
  by_cases e1 : k = 1
  · subst e1
    refine lv_tableIn (off := 244) (tgt := 277) hx hb dL_law_33 (by rw [d]; decide) (by rw [d]; decide) (by rw [d]; rfl) (by decide) ?_
    exact le_1 l S1
  by_cases e2 : k = 2
  · subst e2
    refine lv_tableIn (off := 287) (tgt := 320) hx hb dL_law_33 (by rw [d]; decide) (by rw [d]; decide) (by rw [d]; rfl) (by decide) ?_
    exact le_2 l S1
  by_cases e3 : k = 3
  · subst e3
    refine lv_tableIn (off := 320) (tgt := 353) hx hb dL_law_33 (by rw [d]; decide) (by rw [d]; decide) (by rw [d]; rfl) (by decide) ?_
    exact le_3 l S1
  by_cases e4 : k = 4
  · subst e4
    refine lv_tableIn (off := 343) (tgt := 376) hx hb dL_law_33 (by rw [d]; decide) (by rw [d]; decide) (by rw [d]; rfl) (by decide) ?_
    exact le_4 l S1
  by_cases e5 : k = 5
  · subst e5
    refine lv_tableIn (off := 406) (tgt := 439) hx hb dL_law_33 (by rw [d]; decide) (by rw [d]; decide) (by rw [d]; rfl) (by decide) ?_
    exact le_5 l S1
  by_cases e6 : k = 6
  · subst e6
    refine lv_tableIn (off := 429) (tgt := 462) hx hb dL_law_33 (by rw [d]; decide) (by rw [d]; decide) (by rw [d]; rfl) (by decide) ?_
    exact le_6 l S1
  by_cases e7 : k = 7
  · subst e7
    refine lv_tableIn (off := 462) (tgt := 495) hx hb dL_law_33 (by rw [d]; decide) (by rw [d]; decide) (by rw [d]; rfl) (by decide) ?_
    exact le_7 l S1
  by_cases e8 : k = 8
  · subst e8
    refine lv_tableIn (off := 505) (tgt := 538) hx hb dL_law_33 (by rw [d]; decide) (by rw [d]; decide) (by rw [d]; rfl) (by decide) ?_
    exact le_8 l S1
  by_cases e9 : k = 9
  · subst e9
    refine lv_tableIn (off := 528) (tgt := 561) hx hb dL_law_33 (by rw [d]; decide) (by rw [d]; decide) (by rw [d]; rfl) (by decide) ?_
    exact le_9 l S1
  by_cases e10 : k = 10
  · subst e10
    refine lv_tableIn (off := 551) (tgt := 584) hx hb dL_law_33 (by rw [d]; decide) (by rw [d]; decide) (by rw [d]; rfl) (by decide) ?_
    exact le_10 l S1
  by_cases e11 : k = 11
  · subst e11
    refine lv_tableIn (off := 584) (tgt := 617) hx hb dL_law_33 (by rw [d]; decide) (by rw [d]; decide) (by rw [d]; rfl) (by decide) ?_
    exact le_11 l S1
  by_cases e12 : k = 12
  · subst e12
    refine lv_tableIn (off := 617) (tgt := 650) hx hb dL_law_33 (by rw [d]; decide) (by rw [d]; decide) (by rw [d]; rfl) (by decide) ?_
    exact le_12 l S1
  by_cases e13 : k = 13
  · subst e13
    refine lv_tableIn (off := 650) (tgt := 683) hx hb dL_law_33 (by rw [d]; decide) (by rw [d]; decide) (by rw [d]; rfl) (by decide) ?_
    exact le_13 l S1
  by_cases e14 : k = 14
  · subst e14
    refine lv_tableIn (off := 683) (tgt := 716) hx hb dL_law_33 (by rw [d]; decide) (by rw [d]; decide) (by rw [d]; rfl) (by decide) ?_
    exact le_14 l S1
  by_cases e15 : k = 15
  · subst e15
    refine lv_tableIn (off := 716) (tgt := 749) hx hb dL_law_33 (by rw [d]; decide) (by rw [d]; decide) (by rw [d]; rfl) (by decide) ?_
    exact le_15 l S1
  by_cases e16 : k = 16
  · subst e16
    refine lv_tableIn (off := 739) (tgt := 772) hx hb dL_law_33 (by rw [d]; decide) (by rw [d]; decide) (by rw [d]; rfl) (by decide) ?_
    exact le_16 l S1
  by_cases e17 : k = 17
  · subst e17
    refine lv_tableIn (off := 792) (tgt := 825) hx hb dL_law_33 (by rw [d]; decide) (by rw [d]; decide) (by rw [d]; rfl) (by decide) ?_
    exact le_17 l S1
  by_cases e18 : k = 18
  · subst e18
    refine lv_tableIn (off := 825) (tgt := 858) hx hb dL_law_33 (by rw [d]; decide) (by rw [d]; decide) (by rw [d]; rfl) (by decide) ?_
    exact le_18 l S1
  by_cases e19 : k = 19
  · subst e19
    refine lv_tableIn (off := 848) (tgt := 881) hx hb dL_law_33 (by rw [d]; decide) (by rw [d]; decide) (by rw [d]; rfl) (by decide) ?_
    exact le_19 l S1
  by_cases e20 : k = 20
  · subst e20
    refine lv_tableIn (off := 871) (tgt := 904) hx hb dL_law_33 (by rw [d]; decide) (by rw [d]; decide) (by rw [d]; rfl) (by decide) ?_
    exact le_20 l S1
  by_cases e21 : k = 21
  · subst e21
    refine lv_tableIn (off := 904) (tgt := 937) hx hb dL_law_33 (by rw [d]; decide) (by rw [d]; decide) (by rw [d]; rfl) (by decide) ?_
    exact le_21 l S1
  by_cases e22 : k = 22
  · subst e22
    refine lv_tableIn (off := 927) (tgt := 960) hx hb dL_law_33 (by rw [d]; decide) (by rw [d]; decide) (by rw [d]; rfl) (by decide) ?_
    exact le_22 l S1
  by_cases e23 : k = 23
  · subst e23
    refine lv_tableIn (off := 950) (tgt := 983) hx hb dL_law_33 (by rw [d]; decide) (by rw [d]; decide) (by rw [d]; rfl) (by decide) ?_
    exact le_23 l S1
  by_cases e24 : k = 24
  · subst e24
    refine lv_tableIn (off := 973) (tgt := 1006) hx hb dL_law_33 (by rw [d]; decide) (by rw [d]; decide) (by rw [d]; rfl) (by decide) ?_
    exact le_24 l S1
  by_cases e25 : k = 25
  · subst e25
    refine lv_tableIn (off := 996) (tgt := 1029) hx hb dL_law_33 (by rw [d]; decide) (by rw [d]; decide) (by rw [d]; rfl) (by decide) ?_
    exact le_25 l S1
  by_cases e26 : k = 26
  · subst e26
    refine lv_tableIn (off := 1029) (tgt := 1062) hx hb dL_law_33 (by rw [d]; decide) (by rw [d]; decide) (by rw [d]; rfl) (by decide) ?_
    exact le_26 l S1
  by_cases e27 : k = 27
  · subst e27
    refine lv_tableIn (off := 1062) (tgt := 1095) hx hb dL_law_33 (by rw [d]; decide) (by rw [d]; decide) (by rw [d]; rfl) (by decide) ?_
    exact le_27 l S1
  by_cases e28 : k = 28
  · subst e28
    refine lv_tableIn (off := 1085) (tgt := 1118) hx hb dL_law_33 (by rw [d]; decide) (by rw [d]; decide) (by rw [d]; rfl) (by decide) ?_
    exact le_28 l S1
  by_cases e29 : k = 29
  · subst e29
    refine lv_tableIn (off := 1108) (tgt := 1141) hx hb dL_law_33 (by rw [d]; decide) (by rw [d]; decide) (by rw [d]; rfl) (by decide) ?_
    exact le_29 l S1
  by_cases e30 : k = 30
  · subst e30
    refine lv_tableIn (off := 1131) (tgt := 1164) hx hb dL_law_33 (by rw [d]; decide) (by rw [d]; decide) (by rw [d]; rfl) (by decide) ?_
    exact le_30 l S1
  by_cases e31 : k = 31
  · subst e31
    refine lv_tableIn (off := 1154) (tgt := 1187) hx hb dL_law_33 (by rw [d]; decide) (by rw [d]; decide) (by rw [d]; rfl) (by decide) ?_
    exact le_31 l S1
  by_cases e32 : k = 32
  · subst e32
    refine lv_tableIn (off := 1177) (tgt := 1210) hx hb dL_law_33 (by rw [d]; decide) (by rw [d]; decide) (by rw [d]; rfl) (by decide) ?_
    exact le_32 l S1
  by_cases e33 : k = 33
  · subst e33
    refine lv_tableIn (off := 1200) (tgt := 1233) hx hb dL_law_33 (by rw [d]; decide) (by rw [d]; decide) (by rw [d]; rfl) (by decide) ?_
    exact le_33 l S1
  by_cases e34 : k = 34
  · subst e34
    refine lv_tableIn (off := 1243) (tgt := 1276) hx hb dL_law_33 (by rw [d]; decide) (by rw [d]; decide) (by rw [d]; rfl) (by decide) ?_
    exact le_34 l S1
  by_cases e35 : k = 35
  · subst e35
    refine lv_tableIn (off := 1266) (tgt := 1299) hx hb dL_law_33 (by rw [d]; decide) (by rw [d]; decide) (by rw [d]; rfl) (by decide) ?_
    exact le_35 l S1
  by_cases e36 : k = 36
  · subst e36
    refine lv_tableIn (off := 1289) (tgt := 1322) hx hb dL_law_33 (by rw [d]; decide) (by rw [d]; decide) (by rw [d]; rfl) (by decide) ?_
    exact le_36 l S1
  by_cases e37 : k = 37
  · subst e37
    refine lv_tableIn (off := 1332) (tgt := 1365) hx hb dL_law_33 (by rw [d]; decide) (by rw [d]; decide) (by rw [d]; rfl) (by decide) ?_
    exact le_37 l S1
  by_cases e38 : k = 38
  · subst e38
    refine lv_tableIn (off := 1355) (tgt := 1388) hx hb dL_law_33 (by rw [d]; decide) (by rw [d]; decide) (by rw [d]; rfl) (by decide) ?_
    exact le_38 l S1
  by_cases e39 : k = 39
  · subst e39
    refine lv_tableIn (off := 1388) (tgt := 1421) hx hb dL_law_33 (by rw [d]; decide) (by rw [d]; decide) (by rw [d]; rfl) (by decide) ?_
    exact le_39 l S1
  by_cases e40 : k = 40
  · subst e40
    refine lv_tableIn (off := 1421) (tgt := 1454) hx hb dL_law_33 (by rw [d]; decide) (by rw [d]; decide) (by rw [d]; rfl) (by decide) ?_
    exact le_40 l S1
  by_cases e41 : k = 41
  · subst e41
    refine lv_tableIn (off := 1464) (tgt := 1497) hx hb dL_law_33 (by rw [d]; decide) (by rw [d]; decide) (by rw [d]; rfl) (by decide) ?_
    exact le_41 l S1
  by_cases e42 : k = 42
  · subst e42
    refine lv_tableIn (off := 1497) (tgt := 1530) hx hb dL_law_33 (by rw [d]; decide) (by rw [d]; decide) (by rw [d]; rfl) (by decide) ?_
    exact le_42 l S1
  by_cases e43 : k = 43
  · subst e43
    refine lv_tableIn (off := 1510) (tgt := 1543) hx hb dL_law_33 (by rw [d]; decide) (by rw [d]; decide) (by rw [d]; rfl) (by decide) ?_
    exact le_43 l S1
  by_cases e44 : k = 44
  · subst e44
    refine lv_tableIn (off := 1524) (tgt := 1557) hx hb dL_law_33 (by rw [d]; decide) (by rw [d]; decide) (by rw [d]; rfl) (by decide) ?_
    exact le_44 l S1
  by_cases e45 : k = 45
  · subst e45
    refine lv_tableIn (off := 1538) (tgt := 1571) hx hb dL_law_33 (by rw [d]; decide) (by rw [d]; decide) (by rw [d]; rfl) (by decide) ?_
    exact le_45 l S1
  by_cases e46 : k = 46
  · subst e46
    refine lv_tableIn (off := 1561) (tgt := 1594) hx hb dL_law_33 (by rw [d]; decide) (by rw [d]; decide) (by rw [d]; rfl) (by decide) ?_
    exact le_46 l S1
  by_cases e47 : k = 47
  · subst e47
    refine lv_tableIn (off := 1574) (tgt := 1607) hx hb dL_law_33 (by rw [d]; decide) (by rw [d]; decide) (by rw [d]; rfl) (by decide) ?_
    exact le_47 l S1
  by_cases e48 : k = 48
  · subst e48
    refine lv_tableIn (off := 1597) (tgt := 1630) hx hb dL_law_33 (by rw [d]; decide) (by rw [d]; decide) (by rw [d]; rfl) (by decide) ?_
    exact le_48 l S1
  exact absurd hk (by clear d; omega)
