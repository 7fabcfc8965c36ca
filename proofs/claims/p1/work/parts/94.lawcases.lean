set_option maxHeartbeats 4000000 in
set_option maxRecDepth 100000 in
theorem le_25 {p : Program} {e : Env} {s : State} {m : MethodId} {below : List Frame} {meth : Method} {c : Code} (l : Launch) {b : Nat} {xs : Nat → Int32} {dC : Nat → ClassId} {dI : Nat → Nat → Nat} {csx csm : Nat → ClassId} {adx adm : Nat → Nat} {H : Heap} {locs : List Loc} {ls : Array Slot} (S0 : lw_S p s m meth c b xs dC dI csx csm adx adm H locs ls) : W p l e room_1 s m #[Value.ref b] below meth c H locs 178 3099 (lw_Z below #[Value.ref b] s) (F0 m 1029 ls []) := by
  obtain ⟨C0, hKx, hKm, hPx, hPm, hD, hS, hl⟩ := S0
  have C1 := C0
  obtain ⟨hx, hb, hr, hml, hown0, hts0, hX, hbl, hlocks, hgv⟩ := C0
  have hown : s.vm.findClass RL = some m.cls := hown0
  have hts := hts0
  have hbA : ¬ (fun q : Nat => s.heap.size ≤ q) b := Nat.not_le.mpr hbl
  have hA : ∀ q : Nat, s.heap.size ≤ q → (fun q : Nat => s.heap.size ≤ q) q := fun _ h => h
  have hDx := dl_left hD
  have hDm := dl_right hD
  refine lv_aload_n hx hb dL_law_1029 rfl (lv_at hl 2 rfl) ?_
  refine lv_aload_n hx hb dL_law_1030 rfl (lv_at hl 3 rfl) ?_
  refine lv_iload_n hx hb dL_law_1031 rfl (lv_at hl 0 rfl) ?_
  refine lv_iconst (v := 1) hx hb dL_law_1032 (by decide) ?_
  refine lv_iadd hx hb dL_law_1033 ?_
  refine lq_i 1 (by decide) ?_
  refine va_sld hx hb hX hbl hbA hS (show vp_in 1 6 by unfold vp_in; decide) dL_law_1034 ?_
  refine lq_i (xs 1) rfl ?_
  refine lv_aload_n hx hb dL_law_1035 rfl (lv_at hl 3 rfl) ?_
  refine lv_iload_n hx hb dL_law_1036 rfl (lv_at hl 0 rfl) ?_
  refine lv_iconst (v := 2) hx hb dL_law_1037 (by decide) ?_
  refine lv_iadd hx hb dL_law_1038 ?_
  refine lq_i 2 (by decide) ?_
  refine va_sld hx hb hX hbl hbA hS (show vp_in 2 6 by unfold vp_in; decide) dL_law_1039 ?_
  refine lq_i (xs 2) rfl ?_
  have hFx := fr_all hDx hS hA
  refine va_calli (va_runV (As := [.int (xs 1), .int (xs 2)]) (rest := []) ⟨hx, hb, hml, hown, hts⟩ (px_cheapest l dC dI csx adx H hPx (hDx.weaken (fun _ _ _ _ => trivial)) (xs 1) (xs 2)) (cwV 2 hts gq_X11_cheapest rfl rfl rfl (by decide +kernel) ⟨Nat.le_of_ble_eq_true rfl, Nat.le_of_ble_eq_true rfl⟩) ⟨pb_c, va_recv hKx hPx (ci := 11) (q0 := 0) rfl rfl, pb_m hKx⟩ rfl rfl hl.1 rfl (lv_room (Nat.le_of_ble_eq_true rfl)) dL_law_1040 ⟨Nat.le_of_ble_eq_true rfl, Nat.le_of_ble_eq_true rfl⟩) hS (fun q _ h => hFx q h) hFx (fun r1 u t H1 locs ht hvm hw1 hB hz1 hk1 hS => ?_)
  have hPm := kp_rest hD hPm hk1
  refine lv_aload_n hx hb dL_law_1043 rfl (lv_at hl 1 rfl) ?_
  refine lv_aload_n hx hb dL_law_1044 rfl (lv_at hl 3 rfl) ?_
  refine lv_iload_n hx hb dL_law_1045 rfl (lv_at hl 0 rfl) ?_
  refine lv_iconst (v := 1) hx hb dL_law_1046 (by decide) ?_
  refine lv_iadd hx hb dL_law_1047 ?_
  refine lq_i 1 (by decide) ?_
  refine va_sld hx hb hX hbl hbA hS (show vp_in 1 6 by unfold vp_in; decide) dL_law_1048 ?_
  refine lq_i (xs 1) rfl ?_
  refine lv_aload_n hx hb dL_law_1049 rfl (lv_at hl 3 rfl) ?_
  refine lv_iload_n hx hb dL_law_1050 rfl (lv_at hl 0 rfl) ?_
  refine lv_iconst (v := 2) hx hb dL_law_1051 (by decide) ?_
  refine lv_iadd hx hb dL_law_1052 ?_
  refine lq_i 2 (by decide) ?_
  refine va_sld hx hb hX hbl hbA hS (show vp_in 2 6 by unfold vp_in; decide) dL_law_1053 ?_
  refine lq_i (xs 2) rfl ?_
  have hFm := fr_all hDm hS hA
  refine va_calli (va_runV (As := [.int (xs 1), .int (xs 2)]) (rest := [.int r1]) ⟨hx, hb, hml, hown, hts⟩ (pm_cheapest l dC dI csm adm H1 hPm (hDm.weaken (fun _ _ _ _ => trivial)) (xs 1) (xs 2)) (cwV 2 hts gq_X12_cheapest rfl rfl rfl (by decide +kernel) ⟨Nat.le_of_ble_eq_true rfl, Nat.le_of_ble_eq_true rfl⟩) ⟨pb_c, va_recv hKm hPm (ci := 12) (q0 := 0) rfl rfl, pb_m hKm⟩ rfl rfl hl.1 rfl (lv_room (Nat.le_of_ble_eq_true rfl)) dL_law_1054 ⟨Nat.le_of_ble_eq_true rfl, Nat.le_of_ble_eq_true rfl⟩) hS (fun q _ h => hFm q h) hFm (fun r2 u t H2 locs ht hvm hw2 hB hz1 hk1 hS => ?_)
  refine lv_icmp_eq (tgt := 1644) hx hb dL_law_1057 (by decide) (fun _ => ?_) (fun c => absurd (hw1.trans hw2.symm) c)
  exact le_end l C1 hS hl
set_option maxHeartbeats 4000000 in
set_option maxRecDepth 100000 in
theorem le_26 {p : Program} {e : Env} {s : State} {m : MethodId} {below : List Frame} {meth : Method} {c : Code} (l : Launch) {b : Nat} {xs : Nat → Int32} {dC : Nat → ClassId} {dI : Nat → Nat → Nat} {csx csm : Nat → ClassId} {adx adm : Nat → Nat} {H : Heap} {locs : List Loc} {ls : Array Slot} (S0 : lw_S p s m meth c b xs dC dI csx csm adx adm H locs ls) : W p l e room_1 s m #[Value.ref b] below meth c H locs 178 3099 (lw_Z below #[Value.ref b] s) (F0 m 1062 ls []) := by
  obtain ⟨C0, hKx, hKm, hPx, hPm, hD, hS, hl⟩ := S0
  have C1 := C0
  obtain ⟨hx, hb, hr, hml, hown0, hts0, hX, hbl, hlocks, hgv⟩ := C0
  have hown : s.vm.findClass RL = some m.cls := hown0
  have hts := hts0
  have hbA : ¬ (fun q : Nat => s.heap.size ≤ q) b := Nat.not_le.mpr hbl
  have hA : ∀ q : Nat, s.heap.size ≤ q → (fun q : Nat => s.heap.size ≤ q) q := fun _ h => h
  have hDx := dl_left hD
  have hDm := dl_right hD
  refine lv_aload_n hx hb dL_law_1062 rfl (lv_at hl 2 rfl) ?_
  refine lv_aload_n hx hb dL_law_1063 rfl (lv_at hl 3 rfl) ?_
  refine lv_iload_n hx hb dL_law_1064 rfl (lv_at hl 0 rfl) ?_
  refine lv_iconst (v := 1) hx hb dL_law_1065 (by decide) ?_
  refine lv_iadd hx hb dL_law_1066 ?_
  refine lq_i 1 (by decide) ?_
  refine va_sld hx hb hX hbl hbA hS (show vp_in 1 6 by unfold vp_in; decide) dL_law_1067 ?_
  refine lq_i (xs 1) rfl ?_
  refine lv_aload_n hx hb dL_law_1068 rfl (lv_at hl 3 rfl) ?_
  refine lv_iload_n hx hb dL_law_1069 rfl (lv_at hl 0 rfl) ?_
  refine lv_iconst (v := 2) hx hb dL_law_1070 (by decide) ?_
  refine lv_iadd hx hb dL_law_1071 ?_
  refine lq_i 2 (by decide) ?_
  refine va_sld hx hb hX hbl hbA hS (show vp_in 2 6 by unfold vp_in; decide) dL_law_1072 ?_
  refine lq_i (xs 2) rfl ?_
  have hFx := fr_all hDx hS hA
  refine va_calli (va_runV (As := [.int (xs 1), .int (xs 2)]) (rest := []) ⟨hx, hb, hml, hown, hts⟩ (px_soonest l dC dI csx adx H hPx (hDx.weaken (fun _ _ _ _ => trivial)) (xs 1) (xs 2)) (cwV 2 hts gq_X11_soonest rfl rfl rfl (by decide +kernel) ⟨Nat.le_of_ble_eq_true rfl, Nat.le_of_ble_eq_true rfl⟩) ⟨pb_c, va_recv hKx hPx (ci := 11) (q0 := 0) rfl rfl, pb_m hKx⟩ rfl rfl hl.1 rfl (lv_room (Nat.le_of_ble_eq_true rfl)) dL_law_1073 ⟨Nat.le_of_ble_eq_true rfl, Nat.le_of_ble_eq_true rfl⟩) hS (fun q _ h => hFx q h) hFx (fun r1 u t H1 locs ht hvm hw1 hB hz1 hk1 hS => ?_)
  have hPm := kp_rest hD hPm hk1
  refine lv_aload_n hx hb dL_law_1076 rfl (lv_at hl 1 rfl) ?_
  refine lv_aload_n hx hb dL_law_1077 rfl (lv_at hl 3 rfl) ?_
  refine lv_iload_n hx hb dL_law_1078 rfl (lv_at hl 0 rfl) ?_
  refine lv_iconst (v := 1) hx hb dL_law_1079 (by decide) ?_
  refine lv_iadd hx hb dL_law_1080 ?_
  refine lq_i 1 (by decide) ?_
  refine va_sld hx hb hX hbl hbA hS (show vp_in 1 6 by unfold vp_in; decide) dL_law_1081 ?_
  refine lq_i (xs 1) rfl ?_
  refine lv_aload_n hx hb dL_law_1082 rfl (lv_at hl 3 rfl) ?_
  refine lv_iload_n hx hb dL_law_1083 rfl (lv_at hl 0 rfl) ?_
  refine lv_iconst (v := 2) hx hb dL_law_1084 (by decide) ?_
  refine lv_iadd hx hb dL_law_1085 ?_
  refine lq_i 2 (by decide) ?_
  refine va_sld hx hb hX hbl hbA hS (show vp_in 2 6 by unfold vp_in; decide) dL_law_1086 ?_
  refine lq_i (xs 2) rfl ?_
  have hFm := fr_all hDm hS hA
  refine va_calli (va_runV (As := [.int (xs 1), .int (xs 2)]) (rest := [.int r1]) ⟨hx, hb, hml, hown, hts⟩ (pm_soonest l dC dI csm adm H1 hPm (hDm.weaken (fun _ _ _ _ => trivial)) (xs 1) (xs 2)) (cwV 2 hts gq_X12_soonest rfl rfl rfl (by decide +kernel) ⟨Nat.le_of_ble_eq_true rfl, Nat.le_of_ble_eq_true rfl⟩) ⟨pb_c, va_recv hKm hPm (ci := 12) (q0 := 0) rfl rfl, pb_m hKm⟩ rfl rfl hl.1 rfl (lv_room (Nat.le_of_ble_eq_true rfl)) dL_law_1087 ⟨Nat.le_of_ble_eq_true rfl, Nat.le_of_ble_eq_true rfl⟩) hS (fun q _ h => hFm q h) hFm (fun r2 u t H2 locs ht hvm hw2 hB hz1 hk1 hS => ?_)
  refine lv_icmp_eq (tgt := 1644) hx hb dL_law_1090 (by decide) (fun _ => ?_) (fun c => absurd (hw1.trans hw2.symm) c)
  exact le_end l C1 hS hl
set_option maxHeartbeats 4000000 in
set_option maxRecDepth 100000 in
theorem le_27 {p : Program} {e : Env} {s : State} {m : MethodId} {below : List Frame} {meth : Method} {c : Code} (l : Launch) {b : Nat} {xs : Nat → Int32} {dC : Nat → ClassId} {dI : Nat → Nat → Nat} {csx csm : Nat → ClassId} {adx adm : Nat → Nat} {H : Heap} {locs : List Loc} {ls : Array Slot} (S0 : lw_S p s m meth c b xs dC dI csx csm adx adm H locs ls) : W p l e room_1 s m #[Value.ref b] below meth c H locs 178 3099 (lw_Z below #[Value.ref b] s) (F0 m 1095 ls []) := by
  obtain ⟨C0, hKx, hKm, hPx, hPm, hD, hS, hl⟩ := S0
  have C1 := C0
  obtain ⟨hx, hb, hr, hml, hown0, hts0, hX, hbl, hlocks, hgv⟩ := C0
  have hown : s.vm.findClass RL = some m.cls := hown0
  have hts := hts0
  have hbA : ¬ (fun q : Nat => s.heap.size ≤ q) b := Nat.not_le.mpr hbl
  have hA : ∀ q : Nat, s.heap.size ≤ q → (fun q : Nat => s.heap.size ≤ q) q := fun _ h => h
  have hDx := dl_left hD
  have hDm := dl_right hD
  refine lv_aload_n hx hb dL_law_1095 rfl (lv_at hl 2 rfl) ?_
  refine lv_aload_n hx hb dL_law_1096 rfl (lv_at hl 3 rfl) ?_
  refine lv_iload_n hx hb dL_law_1097 rfl (lv_at hl 0 rfl) ?_
  refine lv_iconst (v := 1) hx hb dL_law_1098 (by decide) ?_
  refine lv_iadd hx hb dL_law_1099 ?_
  refine lq_i 1 (by decide) ?_
  refine va_sld hx hb hX hbl hbA hS (show vp_in 1 6 by unfold vp_in; decide) dL_law_1100 ?_
  refine lq_i (xs 1) rfl ?_
  have hFx := fr_all hDx hS hA
  refine va_calli (va_runV (As := [.int (xs 1)]) (rest := []) ⟨hx, hb, hml, hown, hts⟩ (px_comes l dC dI csx adx H hPx (hDx.weaken (fun _ _ _ _ => trivial)) (xs 1)) (cwV 1 hts gq_X11_comes rfl rfl rfl (by decide +kernel) ⟨Nat.le_of_ble_eq_true rfl, Nat.le_of_ble_eq_true rfl⟩) ⟨pb_c, va_recv hKx hPx (ci := 11) (q0 := 0) rfl rfl, pb_m hKx⟩ rfl rfl hl.1 rfl (lv_room (Nat.le_of_ble_eq_true rfl)) dL_law_1101 ⟨Nat.le_of_ble_eq_true rfl, Nat.le_of_ble_eq_true rfl⟩) hS (fun q _ h => hFx q h) hFx (fun r1 u t H1 locs ht hvm hw1 hB hz1 hk1 hS => ?_)
  have hPm := kp_rest hD hPm hk1
  refine lv_aload_n hx hb dL_law_1104 rfl (lv_at hl 1 rfl) ?_
  refine lv_aload_n hx hb dL_law_1105 rfl (lv_at hl 3 rfl) ?_
  refine lv_iload_n hx hb dL_law_1106 rfl (lv_at hl 0 rfl) ?_
  refine lv_iconst (v := 1) hx hb dL_law_1107 (by decide) ?_
  refine lv_iadd hx hb dL_law_1108 ?_
  refine lq_i 1 (by decide) ?_
  refine va_sld hx hb hX hbl hbA hS (show vp_in 1 6 by unfold vp_in; decide) dL_law_1109 ?_
  refine lq_i (xs 1) rfl ?_
  have hFm := fr_all hDm hS hA
  refine va_calli (va_runV (As := [.int (xs 1)]) (rest := [.int r1]) ⟨hx, hb, hml, hown, hts⟩ (pm_comes l dC dI csm adm H1 hPm (hDm.weaken (fun _ _ _ _ => trivial)) (xs 1)) (cwV 1 hts gq_X12_comes rfl rfl rfl (by decide +kernel) ⟨Nat.le_of_ble_eq_true rfl, Nat.le_of_ble_eq_true rfl⟩) ⟨pb_c, va_recv hKm hPm (ci := 12) (q0 := 0) rfl rfl, pb_m hKm⟩ rfl rfl hl.1 rfl (lv_room (Nat.le_of_ble_eq_true rfl)) dL_law_1110 ⟨Nat.le_of_ble_eq_true rfl, Nat.le_of_ble_eq_true rfl⟩) hS (fun q _ h => hFm q h) hFm (fun r2 u t H2 locs ht hvm hw2 hB hz1 hk1 hS => ?_)
  refine lv_icmp_eq (tgt := 1644) hx hb dL_law_1113 (by decide) (fun _ => ?_) (fun c => absurd (hw1.trans hw2.symm) c)
  exact le_end l C1 hS hl
set_option maxHeartbeats 4000000 in
set_option maxRecDepth 100000 in
theorem le_28 {p : Program} {e : Env} {s : State} {m : MethodId} {below : List Frame} {meth : Method} {c : Code} (l : Launch) {b : Nat} {xs : Nat → Int32} {dC : Nat → ClassId} {dI : Nat → Nat → Nat} {csx csm : Nat → ClassId} {adx adm : Nat → Nat} {H : Heap} {locs : List Loc} {ls : Array Slot} (S0 : lw_S p s m meth c b xs dC dI csx csm adx adm H locs ls) : W p l e room_1 s m #[Value.ref b] below meth c H locs 178 3099 (lw_Z below #[Value.ref b] s) (F0 m 1118 ls []) := by
  obtain ⟨C0, hKx, hKm, hPx, hPm, hD, hS, hl⟩ := S0
  have C1 := C0
  obtain ⟨hx, hb, hr, hml, hown0, hts0, hX, hbl, hlocks, hgv⟩ := C0
  have hown : s.vm.findClass RL = some m.cls := hown0
  have hts := hts0
  have hbA : ¬ (fun q : Nat => s.heap.size ≤ q) b := Nat.not_le.mpr hbl
  have hA : ∀ q : Nat, s.heap.size ≤ q → (fun q : Nat => s.heap.size ≤ q) q := fun _ h => h
  have hDx := dl_left hD
  have hDm := dl_right hD
  refine lv_aload_n hx hb dL_law_1118 rfl (lv_at hl 2 rfl) ?_
  refine lv_aload_n hx hb dL_law_1119 rfl (lv_at hl 3 rfl) ?_
  refine lv_iload_n hx hb dL_law_1120 rfl (lv_at hl 0 rfl) ?_
  refine lv_iconst (v := 1) hx hb dL_law_1121 (by decide) ?_
  refine lv_iadd hx hb dL_law_1122 ?_
  refine lq_i 1 (by decide) ?_
  refine va_sld hx hb hX hbl hbA hS (show vp_in 1 6 by unfold vp_in; decide) dL_law_1123 ?_
  refine lq_i (xs 1) rfl ?_
  have hFx := fr_all hDx hS hA
  refine va_calli (va_runV (As := [.int (xs 1)]) (rest := []) ⟨hx, hb, hml, hown, hts⟩ (px_bars l dC dI csx adx H hPx (hDx.weaken (fun _ _ _ _ => trivial)) (xs 1)) (cwV 1 hts gq_X11_bars rfl rfl rfl (by decide +kernel) ⟨Nat.le_of_ble_eq_true rfl, Nat.le_of_ble_eq_true rfl⟩) ⟨pb_c, va_recv hKx hPx (ci := 11) (q0 := 0) rfl rfl, pb_m hKx⟩ rfl rfl hl.1 rfl (lv_room (Nat.le_of_ble_eq_true rfl)) dL_law_1124 ⟨Nat.le_of_ble_eq_true rfl, Nat.le_of_ble_eq_true rfl⟩) hS (fun q _ h => hFx q h) hFx (fun r1 u t H1 locs ht hvm hw1 hB hz1 hk1 hS => ?_)
  have hPm := kp_rest hD hPm hk1
  refine lv_aload_n hx hb dL_law_1127 rfl (lv_at hl 1 rfl) ?_
  refine lv_aload_n hx hb dL_law_1128 rfl (lv_at hl 3 rfl) ?_
  refine lv_iload_n hx hb dL_law_1129 rfl (lv_at hl 0 rfl) ?_
  refine lv_iconst (v := 1) hx hb dL_law_1130 (by decide) ?_
  refine lv_iadd hx hb dL_law_1131 ?_
  refine lq_i 1 (by decide) ?_
  refine va_sld hx hb hX hbl hbA hS (show vp_in 1 6 by unfold vp_in; decide) dL_law_1132 ?_
  refine lq_i (xs 1) rfl ?_
  have hFm := fr_all hDm hS hA
  refine va_calli (va_runV (As := [.int (xs 1)]) (rest := [.int r1]) ⟨hx, hb, hml, hown, hts⟩ (pm_bars l dC dI csm adm H1 hPm (hDm.weaken (fun _ _ _ _ => trivial)) (xs 1)) (cwV 1 hts gq_X12_bars rfl rfl rfl (by decide +kernel) ⟨Nat.le_of_ble_eq_true rfl, Nat.le_of_ble_eq_true rfl⟩) ⟨pb_c, va_recv hKm hPm (ci := 12) (q0 := 0) rfl rfl, pb_m hKm⟩ rfl rfl hl.1 rfl (lv_room (Nat.le_of_ble_eq_true rfl)) dL_law_1133 ⟨Nat.le_of_ble_eq_true rfl, Nat.le_of_ble_eq_true rfl⟩) hS (fun q _ h => hFm q h) hFm (fun r2 u t H2 locs ht hvm hw2 hB hz1 hk1 hS => ?_)
  refine lv_icmp_eq (tgt := 1644) hx hb dL_law_1136 (by decide) (fun _ => ?_) (fun c => absurd (hw1.trans hw2.symm) c)
  exact le_end l C1 hS hl
set_option maxHeartbeats 4000000 in
set_option maxRecDepth 100000 in
theorem le_29 {p : Program} {e : Env} {s : State} {m : MethodId} {below : List Frame} {meth : Method} {c : Code} (l : Launch) {b : Nat} {xs : Nat → Int32} {dC : Nat → ClassId} {dI : Nat → Nat → Nat} {csx csm : Nat → ClassId} {adx adm : Nat → Nat} {H : Heap} {locs : List Loc} {ls : Array Slot} (S0 : lw_S p s m meth c b xs dC dI csx csm adx adm H locs ls) : W p l e room_1 s m #[Value.ref b] below meth c H locs 178 3099 (lw_Z below #[Value.ref b] s) (F0 m 1141 ls []) := by
  obtain ⟨C0, hKx, hKm, hPx, hPm, hD, hS, hl⟩ := S0
  have C1 := C0
  obtain ⟨hx, hb, hr, hml, hown0, hts0, hX, hbl, hlocks, hgv⟩ := C0
  have hown : s.vm.findClass RL = some m.cls := hown0
  have hts := hts0
  have hbA : ¬ (fun q : Nat => s.heap.size ≤ q) b := Nat.not_le.mpr hbl
  have hA : ∀ q : Nat, s.heap.size ≤ q → (fun q : Nat => s.heap.size ≤ q) q := fun _ h => h
  have hDx := dl_left hD
  have hDm := dl_right hD
  refine lv_aload_n hx hb dL_law_1141 rfl (lv_at hl 2 rfl) ?_
  refine lv_aload_n hx hb dL_law_1142 rfl (lv_at hl 3 rfl) ?_
  refine lv_iload_n hx hb dL_law_1143 rfl (lv_at hl 0 rfl) ?_
  refine lv_iconst (v := 1) hx hb dL_law_1144 (by decide) ?_
  refine lv_iadd hx hb dL_law_1145 ?_
  refine lq_i 1 (by decide) ?_
  refine va_sld hx hb hX hbl hbA hS (show vp_in 1 6 by unfold vp_in; decide) dL_law_1146 ?_
  refine lq_i (xs 1) rfl ?_
  have hFx := fr_all hDx hS hA
  refine va_calli (va_runV (As := [.int (xs 1)]) (rest := []) ⟨hx, hb, hml, hown, hts⟩ (px_why l dC dI csx adx H hPx (hDx.weaken (fun _ _ _ _ => trivial)) (xs 1)) (cwV 1 hts gq_X11_why rfl rfl rfl (by decide +kernel) ⟨Nat.le_of_ble_eq_true rfl, Nat.le_of_ble_eq_true rfl⟩) ⟨pb_c, va_recv hKx hPx (ci := 11) (q0 := 0) rfl rfl, pb_m hKx⟩ rfl rfl hl.1 rfl (lv_room (Nat.le_of_ble_eq_true rfl)) dL_law_1147 ⟨Nat.le_of_ble_eq_true rfl, Nat.le_of_ble_eq_true rfl⟩) hS (fun q _ h => hFx q h) hFx (fun r1 u t H1 locs ht hvm hw1 hB hz1 hk1 hS => ?_)
  have hPm := kp_rest hD hPm hk1
  refine lv_aload_n hx hb dL_law_1150 rfl (lv_at hl 1 rfl) ?_
  refine lv_aload_n hx hb dL_law_1151 rfl (lv_at hl 3 rfl) ?_
  refine lv_iload_n hx hb dL_law_1152 rfl (lv_at hl 0 rfl) ?_
  refine lv_iconst (v := 1) hx hb dL_law_1153 (by decide) ?_
  refine lv_iadd hx hb dL_law_1154 ?_
  refine lq_i 1 (by decide) ?_
  refine va_sld hx hb hX hbl hbA hS (show vp_in 1 6 by unfold vp_in; decide) dL_law_1155 ?_
  refine lq_i (xs 1) rfl ?_
  have hFm := fr_all hDm hS hA
  refine va_calli (va_runV (As := [.int (xs 1)]) (rest := [.int r1]) ⟨hx, hb, hml, hown, hts⟩ (pm_why l dC dI csm adm H1 hPm (hDm.weaken (fun _ _ _ _ => trivial)) (xs 1)) (cwV 1 hts gq_X12_why rfl rfl rfl (by decide +kernel) ⟨Nat.le_of_ble_eq_true rfl, Nat.le_of_ble_eq_true rfl⟩) ⟨pb_c, va_recv hKm hPm (ci := 12) (q0 := 0) rfl rfl, pb_m hKm⟩ rfl rfl hl.1 rfl (lv_room (Nat.le_of_ble_eq_true rfl)) dL_law_1156 ⟨Nat.le_of_ble_eq_true rfl, Nat.le_of_ble_eq_true rfl⟩) hS (fun q _ h => hFm q h) hFm (fun r2 u t H2 locs ht hvm hw2 hB hz1 hk1 hS => ?_)
  refine lv_icmp_eq (tgt := 1644) hx hb dL_law_1159 (by decide) (fun _ => ?_) (fun c => absurd (hw1.trans hw2.symm) c)
  exact le_end l C1 hS hl
set_option maxHeartbeats 4000000 in
set_option maxRecDepth 100000 in
theorem le_30 {p : Program} {e : Env} {s : State} {m : MethodId} {below : List Frame} {meth : Method} {c : Code} (l : Launch) {b : Nat} {xs : Nat → Int32} {dC : Nat → ClassId} {dI : Nat → Nat → Nat} {csx csm : Nat → ClassId} {adx adm : Nat → Nat} {H : Heap} {locs : List Loc} {ls : Array Slot} (S0 : lw_S p s m meth c b xs dC dI csx csm adx adm H locs ls) : W p l e room_1 s m #[Value.ref b] below meth c H locs 178 3099 (lw_Z below #[Value.ref b] s) (F0 m 1164 ls []) := by
  obtain ⟨C0, hKx, hKm, hPx, hPm, hD, hS, hl⟩ := S0
  have C1 := C0
  obtain ⟨hx, hb, hr, hml, hown0, hts0, hX, hbl, hlocks, hgv⟩ := C0
  have hown : s.vm.findClass RL = some m.cls := hown0
  have hts := hts0
  have hbA : ¬ (fun q : Nat => s.heap.size ≤ q) b := Nat.not_le.mpr hbl
  have hA : ∀ q : Nat, s.heap.size ≤ q → (fun q : Nat => s.heap.size ≤ q) q := fun _ h => h
  have hDx := dl_left hD
  have hDm := dl_right hD
  refine lv_aload_n hx hb dL_law_1164 rfl (lv_at hl 2 rfl) ?_
  refine lv_aload_n hx hb dL_law_1165 rfl (lv_at hl 3 rfl) ?_
  refine lv_iload_n hx hb dL_law_1166 rfl (lv_at hl 0 rfl) ?_
  refine lv_iconst (v := 1) hx hb dL_law_1167 (by decide) ?_
  refine lv_iadd hx hb dL_law_1168 ?_
  refine lq_i 1 (by decide) ?_
  refine va_sld hx hb hX hbl hbA hS (show vp_in 1 6 by unfold vp_in; decide) dL_law_1169 ?_
  refine lq_i (xs 1) rfl ?_
  have hFx := fr_all hDx hS hA
  refine va_calli (va_runV (As := [.int (xs 1)]) (rest := []) ⟨hx, hb, hml, hown, hts⟩ (px_needs l dC dI csx adx H hPx (hDx.weaken (fun _ _ _ _ => trivial)) (xs 1)) (cwV 1 hts gq_X11_needs rfl rfl rfl (by decide +kernel) ⟨Nat.le_of_ble_eq_true rfl, Nat.le_of_ble_eq_true rfl⟩) ⟨pb_c, va_recv hKx hPx (ci := 11) (q0 := 0) rfl rfl, pb_m hKx⟩ rfl rfl hl.1 rfl (lv_room (Nat.le_of_ble_eq_true rfl)) dL_law_1170 ⟨Nat.le_of_ble_eq_true rfl, Nat.le_of_ble_eq_true rfl⟩) hS (fun q _ h => hFx q h) hFx (fun r1 u t H1 locs ht hvm hw1 hB hz1 hk1 hS => ?_)
  have hPm := kp_rest hD hPm hk1
  refine lv_aload_n hx hb dL_law_1173 rfl (lv_at hl 1 rfl) ?_
  refine lv_aload_n hx hb dL_law_1174 rfl (lv_at hl 3 rfl) ?_
  refine lv_iload_n hx hb dL_law_1175 rfl (lv_at hl 0 rfl) ?_
  refine lv_iconst (v := 1) hx hb dL_law_1176 (by decide) ?_
  refine lv_iadd hx hb dL_law_1177 ?_
  refine lq_i 1 (by decide) ?_
  refine va_sld hx hb hX hbl hbA hS (show vp_in 1 6 by unfold vp_in; decide) dL_law_1178 ?_
  refine lq_i (xs 1) rfl ?_
  have hFm := fr_all hDm hS hA
  refine va_calli (va_runV (As := [.int (xs 1)]) (rest := [.int r1]) ⟨hx, hb, hml, hown, hts⟩ (pm_needs l dC dI csm adm H1 hPm (hDm.weaken (fun _ _ _ _ => trivial)) (xs 1)) (cwV 1 hts gq_X12_needs rfl rfl rfl (by decide +kernel) ⟨Nat.le_of_ble_eq_true rfl, Nat.le_of_ble_eq_true rfl⟩) ⟨pb_c, va_recv hKm hPm (ci := 12) (q0 := 0) rfl rfl, pb_m hKm⟩ rfl rfl hl.1 rfl (lv_room (Nat.le_of_ble_eq_true rfl)) dL_law_1179 ⟨Nat.le_of_ble_eq_true rfl, Nat.le_of_ble_eq_true rfl⟩) hS (fun q _ h => hFm q h) hFm (fun r2 u t H2 locs ht hvm hw2 hB hz1 hk1 hS => ?_)
  refine lv_icmp_eq (tgt := 1644) hx hb dL_law_1182 (by decide) (fun _ => ?_) (fun c => absurd (hw1.trans hw2.symm) c)
  exact le_end l C1 hS hl
set_option maxHeartbeats 4000000 in
set_option maxRecDepth 100000 in
theorem le_31 {p : Program} {e : Env} {s : State} {m : MethodId} {below : List Frame} {meth : Method} {c : Code} (l : Launch) {b : Nat} {xs : Nat → Int32} {dC : Nat → ClassId} {dI : Nat → Nat → Nat} {csx csm : Nat → ClassId} {adx adm : Nat → Nat} {H : Heap} {locs : List Loc} {ls : Array Slot} (S0 : lw_S p s m meth c b xs dC dI csx csm adx adm H locs ls) : W p l e room_1 s m #[Value.ref b] below meth c H locs 178 3099 (lw_Z below #[Value.ref b] s) (F0 m 1187 ls []) := by
  obtain ⟨C0, hKx, hKm, hPx, hPm, hD, hS, hl⟩ := S0
  have C1 := C0
  obtain ⟨hx, hb, hr, hml, hown0, hts0, hX, hbl, hlocks, hgv⟩ := C0
  have hown : s.vm.findClass RL = some m.cls := hown0
  have hts := hts0
  have hbA : ¬ (fun q : Nat => s.heap.size ≤ q) b := Nat.not_le.mpr hbl
  have hA : ∀ q : Nat, s.heap.size ≤ q → (fun q : Nat => s.heap.size ≤ q) q := fun _ h => h
  have hDx := dl_left hD
  have hDm := dl_right hD
  refine lv_aload_n hx hb dL_law_1187 rfl (lv_at hl 2 rfl) ?_
  refine lv_aload_n hx hb dL_law_1188 rfl (lv_at hl 3 rfl) ?_
  refine lv_iload_n hx hb dL_law_1189 rfl (lv_at hl 0 rfl) ?_
  refine lv_iconst (v := 1) hx hb dL_law_1190 (by decide) ?_
  refine lv_iadd hx hb dL_law_1191 ?_
  refine lq_i 1 (by decide) ?_
  refine va_sld hx hb hX hbl hbA hS (show vp_in 1 6 by unfold vp_in; decide) dL_law_1192 ?_
  refine lq_i (xs 1) rfl ?_
  have hFx := fr_all hDx hS hA
  refine va_calli (va_runV (As := [.int (xs 1)]) (rest := []) ⟨hx, hb, hml, hown, hts⟩ (px_lend l dC dI csx adx H hPx (hDx.weaken (fun _ _ _ _ => trivial)) (xs 1)) (cwV 1 hts gq_X11_lend rfl rfl rfl (by decide +kernel) ⟨Nat.le_of_ble_eq_true rfl, Nat.le_of_ble_eq_true rfl⟩) ⟨pb_c, va_recv hKx hPx (ci := 11) (q0 := 0) rfl rfl, pb_m hKx⟩ rfl rfl hl.1 rfl (lv_room (Nat.le_of_ble_eq_true rfl)) dL_law_1193 ⟨Nat.le_of_ble_eq_true rfl, Nat.le_of_ble_eq_true rfl⟩) hS (fun q _ h => hFx q h) hFx (fun r1 u t H1 locs ht hvm hw1 hB hz1 hk1 hS => ?_)
  have hPm := kp_rest hD hPm hk1
  refine lv_aload_n hx hb dL_law_1196 rfl (lv_at hl 1 rfl) ?_
  refine lv_aload_n hx hb dL_law_1197 rfl (lv_at hl 3 rfl) ?_
  refine lv_iload_n hx hb dL_law_1198 rfl (lv_at hl 0 rfl) ?_
  refine lv_iconst (v := 1) hx hb dL_law_1199 (by decide) ?_
  refine lv_iadd hx hb dL_law_1200 ?_
  refine lq_i 1 (by decide) ?_
  refine va_sld hx hb hX hbl hbA hS (show vp_in 1 6 by unfold vp_in; decide) dL_law_1201 ?_
  refine lq_i (xs 1) rfl ?_
  have hFm := fr_all hDm hS hA
  refine va_calli (va_runV (As := [.int (xs 1)]) (rest := [.int r1]) ⟨hx, hb, hml, hown, hts⟩ (pm_lend l dC dI csm adm H1 hPm (hDm.weaken (fun _ _ _ _ => trivial)) (xs 1)) (cwV 1 hts gq_X12_lend rfl rfl rfl (by decide +kernel) ⟨Nat.le_of_ble_eq_true rfl, Nat.le_of_ble_eq_true rfl⟩) ⟨pb_c, va_recv hKm hPm (ci := 12) (q0 := 0) rfl rfl, pb_m hKm⟩ rfl rfl hl.1 rfl (lv_room (Nat.le_of_ble_eq_true rfl)) dL_law_1202 ⟨Nat.le_of_ble_eq_true rfl, Nat.le_of_ble_eq_true rfl⟩) hS (fun q _ h => hFm q h) hFm (fun r2 u t H2 locs ht hvm hw2 hB hz1 hk1 hS => ?_)
  refine lv_icmp_eq (tgt := 1644) hx hb dL_law_1205 (by decide) (fun _ => ?_) (fun c => absurd (hw1.trans hw2.symm) c)
  exact le_end l C1 hS hl
set_option maxHeartbeats 4000000 in
set_option maxRecDepth 100000 in
theorem le_32 {p : Program} {e : Env} {s : State} {m : MethodId} {below : List Frame} {meth : Method} {c : Code} (l : Launch) {b : Nat} {xs : Nat → Int32} {dC : Nat → ClassId} {dI : Nat → Nat → Nat} {csx csm : Nat → ClassId} {adx adm : Nat → Nat} {H : Heap} {locs : List Loc} {ls : Array Slot} (S0 : lw_S p s m meth c b xs dC dI csx csm adx adm H locs ls) : W p l e room_1 s m #[Value.ref b] below meth c H locs 178 3099 (lw_Z below #[Value.ref b] s) (F0 m 1210 ls []) := by
  obtain ⟨C0, hKx, hKm, hPx, hPm, hD, hS, hl⟩ := S0
  have C1 := C0
  obtain ⟨hx, hb, hr, hml, hown0, hts0, hX, hbl, hlocks, hgv⟩ := C0
  have hown : s.vm.findClass RL = some m.cls := hown0
  have hts := hts0
  have hbA : ¬ (fun q : Nat => s.heap.size ≤ q) b := Nat.not_le.mpr hbl
  have hA : ∀ q : Nat, s.heap.size ≤ q → (fun q : Nat => s.heap.size ≤ q) q := fun _ h => h
  have hDx := dl_left hD
  have hDm := dl_right hD
  refine lv_aload_n hx hb dL_law_1210 rfl (lv_at hl 2 rfl) ?_
  refine lv_aload_n hx hb dL_law_1211 rfl (lv_at hl 3 rfl) ?_
  refine lv_iload_n hx hb dL_law_1212 rfl (lv_at hl 0 rfl) ?_
  refine lv_iconst (v := 1) hx hb dL_law_1213 (by decide) ?_
  refine lv_iadd hx hb dL_law_1214 ?_
  refine lq_i 1 (by decide) ?_
  refine va_sld hx hb hX hbl hbA hS (show vp_in 1 6 by unfold vp_in; decide) dL_law_1215 ?_
  refine lq_i (xs 1) rfl ?_
  have hFx := fr_all hDx hS hA
  refine va_calli (va_runV (As := [.int (xs 1)]) (rest := []) ⟨hx, hb, hml, hown, hts⟩ (px_block l dC dI csx adx H hPx (hDx.weaken (fun _ _ _ _ => trivial)) (xs 1)) (cwV 1 hts gq_X11_block rfl rfl rfl (by decide +kernel) ⟨Nat.le_of_ble_eq_true rfl, Nat.le_of_ble_eq_true rfl⟩) ⟨pb_c, va_recv hKx hPx (ci := 11) (q0 := 0) rfl rfl, pb_m hKx⟩ rfl rfl hl.1 rfl (lv_room (Nat.le_of_ble_eq_true rfl)) dL_law_1216 ⟨Nat.le_of_ble_eq_true rfl, Nat.le_of_ble_eq_true rfl⟩) hS (fun q _ h => hFx q h) hFx (fun r1 u t H1 locs ht hvm hw1 hB hz1 hk1 hS => ?_)
  have hPm := kp_rest hD hPm hk1
  refine lv_aload_n hx hb dL_law_1219 rfl (lv_at hl 1 rfl) ?_
  refine lv_aload_n hx hb dL_law_1220 rfl (lv_at hl 3 rfl) ?_
  refine lv_iload_n hx hb dL_law_1221 rfl (lv_at hl 0 rfl) ?_
  refine lv_iconst (v := 1) hx hb dL_law_1222 (by decide) ?_
  refine lv_iadd hx hb dL_law_1223 ?_
  refine lq_i 1 (by decide) ?_
  refine va_sld hx hb hX hbl hbA hS (show vp_in 1 6 by unfold vp_in; decide) dL_law_1224 ?_
  refine lq_i (xs 1) rfl ?_
  have hFm := fr_all hDm hS hA
  refine va_calli (va_runV (As := [.int (xs 1)]) (rest := [.int r1]) ⟨hx, hb, hml, hown, hts⟩ (pm_block l dC dI csm adm H1 hPm (hDm.weaken (fun _ _ _ _ => trivial)) (xs 1)) (cwV 1 hts gq_X12_block rfl rfl rfl (by decide +kernel) ⟨Nat.le_of_ble_eq_true rfl, Nat.le_of_ble_eq_true rfl⟩) ⟨pb_c, va_recv hKm hPm (ci := 12) (q0 := 0) rfl rfl, pb_m hKm⟩ rfl rfl hl.1 rfl (lv_room (Nat.le_of_ble_eq_true rfl)) dL_law_1225 ⟨Nat.le_of_ble_eq_true rfl, Nat.le_of_ble_eq_true rfl⟩) hS (fun q _ h => hFm q h) hFm (fun r2 u t H2 locs ht hvm hw2 hB hz1 hk1 hS => ?_)
  refine lv_icmp_eq (tgt := 1644) hx hb dL_law_1228 (by decide) (fun _ => ?_) (fun c => absurd (hw1.trans hw2.symm) c)
  exact le_end l C1 hS hl
set_option maxHeartbeats 4000000 in
set_option maxRecDepth 100000 in
theorem le_33 {p : Program} {e : Env} {s : State} {m : MethodId} {below : List Frame} {meth : Method} {c : Code} (l : Launch) {b : Nat} {xs : Nat → Int32} {dC : Nat → ClassId} {dI : Nat → Nat → Nat} {csx csm : Nat → ClassId} {adx adm : Nat → Nat} {H : Heap} {locs : List Loc} {ls : Array Slot} (S0 : lw_S p s m meth c b xs dC dI csx csm adx adm H locs ls) : W p l e room_1 s m #[Value.ref b] below meth c H locs 178 3099 (lw_Z below #[Value.ref b] s) (F0 m 1233 ls []) := by
  obtain ⟨C0, hKx, hKm, hPx, hPm, hD, hS, hl⟩ := S0
  have C1 := C0
  obtain ⟨hx, hb, hr, hml, hown0, hts0, hX, hbl, hlocks, hgv⟩ := C0
  have hown : s.vm.findClass RL = some m.cls := hown0
  have hts := hts0
  have hbA : ¬ (fun q : Nat => s.heap.size ≤ q) b := Nat.not_le.mpr hbl
  have hA : ∀ q : Nat, s.heap.size ≤ q → (fun q : Nat => s.heap.size ≤ q) q := fun _ h => h
  have hDx := dl_left hD
  have hDm := dl_right hD
  refine lv_aload_n hx hb dL_law_1233 rfl (lv_at hl 2 rfl) ?_
  refine lv_aload_n hx hb dL_law_1234 rfl (lv_at hl 3 rfl) ?_
  refine lv_iload_n hx hb dL_law_1235 rfl (lv_at hl 0 rfl) ?_
  refine lv_iconst (v := 1) hx hb dL_law_1236 (by decide) ?_
  refine lv_iadd hx hb dL_law_1237 ?_
  refine lq_i 1 (by decide) ?_
  refine va_sld hx hb hX hbl hbA hS (show vp_in 1 6 by unfold vp_in; decide) dL_law_1238 ?_
  refine lq_i (xs 1) rfl ?_
  refine lv_aload_n hx hb dL_law_1239 rfl (lv_at hl 3 rfl) ?_
  refine lv_iload_n hx hb dL_law_1240 rfl (lv_at hl 0 rfl) ?_
  refine lv_iconst (v := 2) hx hb dL_law_1241 (by decide) ?_
  refine lv_iadd hx hb dL_law_1242 ?_
  refine lq_i 2 (by decide) ?_
  refine va_sld hx hb hX hbl hbA hS (show vp_in 2 6 by unfold vp_in; decide) dL_law_1243 ?_
  refine lq_i (xs 2) rfl ?_
  refine lv_aload_n hx hb dL_law_1244 rfl (lv_at hl 3 rfl) ?_
  refine lv_iload_n hx hb dL_law_1245 rfl (lv_at hl 0 rfl) ?_
  refine lv_iconst (v := 3) hx hb dL_law_1246 (by decide) ?_
  refine lv_iadd hx hb dL_law_1247 ?_
  refine lq_i 3 (by decide) ?_
  refine va_sld hx hb hX hbl hbA hS (show vp_in 3 6 by unfold vp_in; decide) dL_law_1248 ?_
  refine lq_i (xs 3) rfl ?_
  have hFx := fr_all hDx hS hA
  refine va_calli (va_runV (As := [.int (xs 1), .int (xs 2), .int (xs 3)]) (rest := []) ⟨hx, hb, hml, hown, hts⟩ (px_worth l dC dI csx adx H hPx (hDx.weaken (fun _ _ _ _ => trivial)) (xs 1) (xs 2) (xs 3)) (cwV 3 hts gq_X11_worth rfl rfl rfl (by decide +kernel) ⟨Nat.le_of_ble_eq_true rfl, Nat.le_of_ble_eq_true rfl⟩) ⟨pb_c, va_recv hKx hPx (ci := 11) (q0 := 0) rfl rfl, pb_m hKx⟩ rfl rfl hl.1 rfl (lv_room (Nat.le_of_ble_eq_true rfl)) dL_law_1249 ⟨Nat.le_of_ble_eq_true rfl, Nat.le_of_ble_eq_true rfl⟩) hS (fun q _ h => hFx q h) hFx (fun r1 u t H1 locs ht hvm hw1 hB hz1 hk1 hS => ?_)
  have hPm := kp_rest hD hPm hk1
  refine lv_aload_n hx hb dL_law_1252 rfl (lv_at hl 1 rfl) ?_
  refine lv_aload_n hx hb dL_law_1253 rfl (lv_at hl 3 rfl) ?_
  refine lv_iload_n hx hb dL_law_1254 rfl (lv_at hl 0 rfl) ?_
  refine lv_iconst (v := 1) hx hb dL_law_1255 (by decide) ?_
  refine lv_iadd hx hb dL_law_1256 ?_
  refine lq_i 1 (by decide) ?_
  refine va_sld hx hb hX hbl hbA hS (show vp_in 1 6 by unfold vp_in; decide) dL_law_1257 ?_
  refine lq_i (xs 1) rfl ?_
  refine lv_aload_n hx hb dL_law_1258 rfl (lv_at hl 3 rfl) ?_
  refine lv_iload_n hx hb dL_law_1259 rfl (lv_at hl 0 rfl) ?_
  refine lv_iconst (v := 2) hx hb dL_law_1260 (by decide) ?_
  refine lv_iadd hx hb dL_law_1261 ?_
  refine lq_i 2 (by decide) ?_
  refine va_sld hx hb hX hbl hbA hS (show vp_in 2 6 by unfold vp_in; decide) dL_law_1262 ?_
  refine lq_i (xs 2) rfl ?_
  refine lv_aload_n hx hb dL_law_1263 rfl (lv_at hl 3 rfl) ?_
  refine lv_iload_n hx hb dL_law_1264 rfl (lv_at hl 0 rfl) ?_
  refine lv_iconst (v := 3) hx hb dL_law_1265 (by decide) ?_
  refine lv_iadd hx hb dL_law_1266 ?_
  refine lq_i 3 (by decide) ?_
  refine va_sld hx hb hX hbl hbA hS (show vp_in 3 6 by unfold vp_in; decide) dL_law_1267 ?_
  refine lq_i (xs 3) rfl ?_
  have hFm := fr_all hDm hS hA
  refine va_calli (va_runV (As := [.int (xs 1), .int (xs 2), .int (xs 3)]) (rest := [.int r1]) ⟨hx, hb, hml, hown, hts⟩ (pm_worth l dC dI csm adm H1 hPm (hDm.weaken (fun _ _ _ _ => trivial)) (xs 1) (xs 2) (xs 3)) (cwV 3 hts gq_X12_worth rfl rfl rfl (by decide +kernel) ⟨Nat.le_of_ble_eq_true rfl, Nat.le_of_ble_eq_true rfl⟩) ⟨pb_c, va_recv hKm hPm (ci := 12) (q0 := 0) rfl rfl, pb_m hKm⟩ rfl rfl hl.1 rfl (lv_room (Nat.le_of_ble_eq_true rfl)) dL_law_1268 ⟨Nat.le_of_ble_eq_true rfl, Nat.le_of_ble_eq_true rfl⟩) hS (fun q _ h => hFm q h) hFm (fun r2 u t H2 locs ht hvm hw2 hB hz1 hk1 hS => ?_)
  refine lv_icmp_eq (tgt := 1644) hx hb dL_law_1271 (by decide) (fun _ => ?_) (fun c => absurd (hw1.trans hw2.symm) c)
  exact le_end l C1 hS hl
set_option maxHeartbeats 4000000 in
set_option maxRecDepth 100000 in
theorem le_34 {p : Program} {e : Env} {s : State} {m : MethodId} {below : List Frame} {meth : Method} {c : Code} (l : Launch) {b : Nat} {xs : Nat → Int32} {dC : Nat → ClassId} {dI : Nat → Nat → Nat} {csx csm : Nat → ClassId} {adx adm : Nat → Nat} {H : Heap} {locs : List Loc} {ls : Array Slot} (S0 : lw_S p s m meth c b xs dC dI csx csm adx adm H locs ls) : W p l e room_1 s m #[Value.ref b] below meth c H locs 178 3099 (lw_Z below #[Value.ref b] s) (F0 m 1276 ls []) := by
  obtain ⟨C0, hKx, hKm, hPx, hPm, hD, hS, hl⟩ := S0
  have C1 := C0
  obtain ⟨hx, hb, hr, hml, hown0, hts0, hX, hbl, hlocks, hgv⟩ := C0
  have hown : s.vm.findClass RL = some m.cls := hown0
  have hts := hts0
  have hbA : ¬ (fun q : Nat => s.heap.size ≤ q) b := Nat.not_le.mpr hbl
  have hA : ∀ q : Nat, s.heap.size ≤ q → (fun q : Nat => s.heap.size ≤ q) q := fun _ h => h
  have hDx := dl_left hD
  have hDm := dl_right hD
  refine lv_aload_n hx hb dL_law_1276 rfl (lv_at hl 2 rfl) ?_
  refine lv_aload_n hx hb dL_law_1277 rfl (lv_at hl 3 rfl) ?_
  refine lv_iload_n hx hb dL_law_1278 rfl (lv_at hl 0 rfl) ?_
  refine lv_iconst (v := 1) hx hb dL_law_1279 (by decide) ?_
  refine lv_iadd hx hb dL_law_1280 ?_
  refine lq_i 1 (by decide) ?_
  refine va_sld hx hb hX hbl hbA hS (show vp_in 1 6 by unfold vp_in; decide) dL_law_1281 ?_
  refine lq_i (xs 1) rfl ?_
  refine cr_i (va_runV (As := [.int (xs 1)]) (rest := []) ⟨hx, hb, hml, hown, hts⟩ (px_bundle l dC dI csx adx H hPx (xs 1)) (cwV 1 hts gq_X11_bundle rfl rfl rfl (by decide +kernel) ⟨Nat.le_of_ble_eq_true rfl, Nat.le_of_ble_eq_true rfl⟩) ⟨pb_c, va_recv hKx hPx (ci := 11) (q0 := 0) rfl rfl, pb_m hKx⟩ rfl rfl hl.1 rfl (lv_room (Nat.le_of_ble_eq_true rfl)) dL_law_1282 ⟨Nat.le_of_ble_eq_true rfl, Nat.le_of_ble_eq_true rfl⟩) hS (fun r1 hw1 locs hS => ?_)
  refine lv_aload_n hx hb dL_law_1285 rfl (lv_at hl 1 rfl) ?_
  refine lv_aload_n hx hb dL_law_1286 rfl (lv_at hl 3 rfl) ?_
  refine lv_iload_n hx hb dL_law_1287 rfl (lv_at hl 0 rfl) ?_
  refine lv_iconst (v := 1) hx hb dL_law_1288 (by decide) ?_
  refine lv_iadd hx hb dL_law_1289 ?_
  refine lq_i 1 (by decide) ?_
  refine va_sld hx hb hX hbl hbA hS (show vp_in 1 6 by unfold vp_in; decide) dL_law_1290 ?_
  refine lq_i (xs 1) rfl ?_
  refine cr_i (va_runV (As := [.int (xs 1)]) (rest := [.int r1]) ⟨hx, hb, hml, hown, hts⟩ (pm_bundle l dC dI csm adm H hPm (xs 1)) (cwV 1 hts gq_X12_bundle rfl rfl rfl (by decide +kernel) ⟨Nat.le_of_ble_eq_true rfl, Nat.le_of_ble_eq_true rfl⟩) ⟨pb_c, va_recv hKm hPm (ci := 12) (q0 := 0) rfl rfl, pb_m hKm⟩ rfl rfl hl.1 rfl (lv_room (Nat.le_of_ble_eq_true rfl)) dL_law_1291 ⟨Nat.le_of_ble_eq_true rfl, Nat.le_of_ble_eq_true rfl⟩) hS (fun r2 hw2 locs hS => ?_)
  refine lv_icmp_eq (tgt := 1644) hx hb dL_law_1294 (by decide) (fun _ => ?_) (fun c => absurd (hw1.trans hw2.symm) c)
  exact le_end l C1 hS hl
set_option maxHeartbeats 4000000 in
set_option maxRecDepth 100000 in
theorem le_35 {p : Program} {e : Env} {s : State} {m : MethodId} {below : List Frame} {meth : Method} {c : Code} (l : Launch) {b : Nat} {xs : Nat → Int32} {dC : Nat → ClassId} {dI : Nat → Nat → Nat} {csx csm : Nat → ClassId} {adx adm : Nat → Nat} {H : Heap} {locs : List Loc} {ls : Array Slot} (S0 : lw_S p s m meth c b xs dC dI csx csm adx adm H locs ls) : W p l e room_1 s m #[Value.ref b] below meth c H locs 178 3099 (lw_Z below #[Value.ref b] s) (F0 m 1299 ls []) := by
  obtain ⟨C0, hKx, hKm, hPx, hPm, hD, hS, hl⟩ := S0
  have C1 := C0
  obtain ⟨hx, hb, hr, hml, hown0, hts0, hX, hbl, hlocks, hgv⟩ := C0
  have hown : s.vm.findClass RL = some m.cls := hown0
  have hts := hts0
  have hbA : ¬ (fun q : Nat => s.heap.size ≤ q) b := Nat.not_le.mpr hbl
  have hA : ∀ q : Nat, s.heap.size ≤ q → (fun q : Nat => s.heap.size ≤ q) q := fun _ h => h
  have hDx := dl_left hD
  have hDm := dl_right hD
  refine lv_aload_n hx hb dL_law_1299 rfl (lv_at hl 2 rfl) ?_
  refine lv_aload_n hx hb dL_law_1300 rfl (lv_at hl 3 rfl) ?_
  refine lv_iload_n hx hb dL_law_1301 rfl (lv_at hl 0 rfl) ?_
  refine lv_iconst (v := 1) hx hb dL_law_1302 (by decide) ?_
  refine lv_iadd hx hb dL_law_1303 ?_
  refine lq_i 1 (by decide) ?_
  refine va_sld hx hb hX hbl hbA hS (show vp_in 1 6 by unfold vp_in; decide) dL_law_1304 ?_
  refine lq_i (xs 1) rfl ?_
  have hFx := fr_all hDx hS hA
  refine va_calli (va_runV (As := [.int (xs 1)]) (rest := []) ⟨hx, hb, hml, hown, hts⟩ (px_post l dC dI csx adx H hPx (hDx.weaken (fun _ _ _ _ => trivial)) (xs 1)) (cwV 1 hts gq_X11_post rfl rfl rfl (by decide +kernel) ⟨Nat.le_of_ble_eq_true rfl, Nat.le_of_ble_eq_true rfl⟩) ⟨pb_c, va_recv hKx hPx (ci := 11) (q0 := 0) rfl rfl, pb_m hKx⟩ rfl rfl hl.1 rfl (lv_room (Nat.le_of_ble_eq_true rfl)) dL_law_1305 ⟨Nat.le_of_ble_eq_true rfl, Nat.le_of_ble_eq_true rfl⟩) hS (fun q _ h => hFx q h) hFx (fun r1 u t H1 locs ht hvm hw1 hB hz1 hk1 hS => ?_)
  have hPm := kp_rest hD hPm hk1
  refine lv_aload_n hx hb dL_law_1308 rfl (lv_at hl 1 rfl) ?_
  refine lv_aload_n hx hb dL_law_1309 rfl (lv_at hl 3 rfl) ?_
  refine lv_iload_n hx hb dL_law_1310 rfl (lv_at hl 0 rfl) ?_
  refine lv_iconst (v := 1) hx hb dL_law_1311 (by decide) ?_
  refine lv_iadd hx hb dL_law_1312 ?_
  refine lq_i 1 (by decide) ?_
  refine va_sld hx hb hX hbl hbA hS (show vp_in 1 6 by unfold vp_in; decide) dL_law_1313 ?_
  refine lq_i (xs 1) rfl ?_
  have hFm := fr_all hDm hS hA
  refine va_calli (va_runV (As := [.int (xs 1)]) (rest := [.int r1]) ⟨hx, hb, hml, hown, hts⟩ (pm_post l dC dI csm adm H1 hPm (hDm.weaken (fun _ _ _ _ => trivial)) (xs 1)) (cwV 1 hts gq_X12_post rfl rfl rfl (by decide +kernel) ⟨Nat.le_of_ble_eq_true rfl, Nat.le_of_ble_eq_true rfl⟩) ⟨pb_c, va_recv hKm hPm (ci := 12) (q0 := 0) rfl rfl, pb_m hKm⟩ rfl rfl hl.1 rfl (lv_room (Nat.le_of_ble_eq_true rfl)) dL_law_1314 ⟨Nat.le_of_ble_eq_true rfl, Nat.le_of_ble_eq_true rfl⟩) hS (fun q _ h => hFm q h) hFm (fun r2 u t H2 locs ht hvm hw2 hB hz1 hk1 hS => ?_)
  refine lv_icmp_eq (tgt := 1644) hx hb dL_law_1317 (by decide) (fun _ => ?_) (fun c => absurd (hw1.trans hw2.symm) c)
  exact le_end l C1 hS hl
set_option maxHeartbeats 4000000 in
set_option maxRecDepth 100000 in
theorem le_36 {p : Program} {e : Env} {s : State} {m : MethodId} {below : List Frame} {meth : Method} {c : Code} (l : Launch) {b : Nat} {xs : Nat → Int32} {dC : Nat → ClassId} {dI : Nat → Nat → Nat} {csx csm : Nat → ClassId} {adx adm : Nat → Nat} {H : Heap} {locs : List Loc} {ls : Array Slot} (S0 : lw_S p s m meth c b xs dC dI csx csm adx adm H locs ls) : W p l e room_1 s m #[Value.ref b] below meth c H locs 178 3099 (lw_Z below #[Value.ref b] s) (F0 m 1322 ls []) := by
  obtain ⟨C0, hKx, hKm, hPx, hPm, hD, hS, hl⟩ := S0
  have C1 := C0
  obtain ⟨hx, hb, hr, hml, hown0, hts0, hX, hbl, hlocks, hgv⟩ := C0
  have hown : s.vm.findClass RL = some m.cls := hown0
  have hts := hts0
  have hbA : ¬ (fun q : Nat => s.heap.size ≤ q) b := Nat.not_le.mpr hbl
  have hA : ∀ q : Nat, s.heap.size ≤ q → (fun q : Nat => s.heap.size ≤ q) q := fun _ h => h
  have hDx := dl_left hD
  have hDm := dl_right hD
  refine lv_aload_n hx hb dL_law_1322 rfl (lv_at hl 2 rfl) ?_
  refine lv_aload_n hx hb dL_law_1323 rfl (lv_at hl 3 rfl) ?_
  refine lv_iload_n hx hb dL_law_1324 rfl (lv_at hl 0 rfl) ?_
  refine lv_iconst (v := 1) hx hb dL_law_1325 (by decide) ?_
  refine lv_iadd hx hb dL_law_1326 ?_
  refine lq_i 1 (by decide) ?_
  refine va_sld hx hb hX hbl hbA hS (show vp_in 1 6 by unfold vp_in; decide) dL_law_1327 ?_
  refine lq_i (xs 1) rfl ?_
  refine lv_aload_n hx hb dL_law_1328 rfl (lv_at hl 3 rfl) ?_
  refine lv_iload_n hx hb dL_law_1329 rfl (lv_at hl 0 rfl) ?_
  refine lv_iconst (v := 2) hx hb dL_law_1330 (by decide) ?_
  refine lv_iadd hx hb dL_law_1331 ?_
  refine lq_i 2 (by decide) ?_
  refine va_sld hx hb hX hbl hbA hS (show vp_in 2 6 by unfold vp_in; decide) dL_law_1332 ?_
  refine lq_i (xs 2) rfl ?_
  refine lv_aload_n hx hb dL_law_1333 rfl (lv_at hl 3 rfl) ?_
  refine lv_iload_n hx hb dL_law_1334 rfl (lv_at hl 0 rfl) ?_
  refine lv_iconst (v := 3) hx hb dL_law_1335 (by decide) ?_
  refine lv_iadd hx hb dL_law_1336 ?_
  refine lq_i 3 (by decide) ?_
  refine va_sld hx hb hX hbl hbA hS (show vp_in 3 6 by unfold vp_in; decide) dL_law_1337 ?_
  refine lq_i (xs 3) rfl ?_
  refine cr_i (va_runV (As := [.int (xs 1), .int (xs 2), .int (xs 3)]) (rest := []) ⟨hx, hb, hml, hown, hts⟩ (px_fake l dC dI csx adx H hPx (xs 1) (xs 2) (xs 3)) (cwV 3 hts gq_X11_fake rfl rfl rfl (by decide +kernel) ⟨Nat.le_of_ble_eq_true rfl, Nat.le_of_ble_eq_true rfl⟩) ⟨pb_c, va_recv hKx hPx (ci := 11) (q0 := 0) rfl rfl, pb_m hKx⟩ rfl rfl hl.1 rfl (lv_room (Nat.le_of_ble_eq_true rfl)) dL_law_1338 ⟨Nat.le_of_ble_eq_true rfl, Nat.le_of_ble_eq_true rfl⟩) hS (fun r1 hw1 locs hS => ?_)
  refine lv_aload_n hx hb dL_law_1341 rfl (lv_at hl 1 rfl) ?_
  refine lv_aload_n hx hb dL_law_1342 rfl (lv_at hl 3 rfl) ?_
  refine lv_iload_n hx hb dL_law_1343 rfl (lv_at hl 0 rfl) ?_
  refine lv_iconst (v := 1) hx hb dL_law_1344 (by decide) ?_
  refine lv_iadd hx hb dL_law_1345 ?_
  refine lq_i 1 (by decide) ?_
  refine va_sld hx hb hX hbl hbA hS (show vp_in 1 6 by unfold vp_in; decide) dL_law_1346 ?_
  refine lq_i (xs 1) rfl ?_
  refine lv_aload_n hx hb dL_law_1347 rfl (lv_at hl 3 rfl) ?_
  refine lv_iload_n hx hb dL_law_1348 rfl (lv_at hl 0 rfl) ?_
  refine lv_iconst (v := 2) hx hb dL_law_1349 (by decide) ?_
  refine lv_iadd hx hb dL_law_1350 ?_
  refine lq_i 2 (by decide) ?_
  refine va_sld hx hb hX hbl hbA hS (show vp_in 2 6 by unfold vp_in; decide) dL_law_1351 ?_
  refine lq_i (xs 2) rfl ?_
  refine lv_aload_n hx hb dL_law_1352 rfl (lv_at hl 3 rfl) ?_
  refine lv_iload_n hx hb dL_law_1353 rfl (lv_at hl 0 rfl) ?_
  refine lv_iconst (v := 3) hx hb dL_law_1354 (by decide) ?_
  refine lv_iadd hx hb dL_law_1355 ?_
  refine lq_i 3 (by decide) ?_
  refine va_sld hx hb hX hbl hbA hS (show vp_in 3 6 by unfold vp_in; decide) dL_law_1356 ?_
  refine lq_i (xs 3) rfl ?_
  refine cr_i (va_runV (As := [.int (xs 1), .int (xs 2), .int (xs 3)]) (rest := [.int r1]) ⟨hx, hb, hml, hown, hts⟩ (pm_fake l dC dI csm adm H hPm (xs 1) (xs 2) (xs 3)) (cwV 3 hts gq_X12_fake rfl rfl rfl (by decide +kernel) ⟨Nat.le_of_ble_eq_true rfl, Nat.le_of_ble_eq_true rfl⟩) ⟨pb_c, va_recv hKm hPm (ci := 12) (q0 := 0) rfl rfl, pb_m hKm⟩ rfl rfl hl.1 rfl (lv_room (Nat.le_of_ble_eq_true rfl)) dL_law_1357 ⟨Nat.le_of_ble_eq_true rfl, Nat.le_of_ble_eq_true rfl⟩) hS (fun r2 hw2 locs hS => ?_)
  refine lv_icmp_eq (tgt := 1644) hx hb dL_law_1360 (by decide) (fun _ => ?_) (fun c => absurd (hw1.trans hw2.symm) c)
  exact le_end l C1 hS hl
set_option maxHeartbeats 4000000 in
set_option maxRecDepth 100000 in
theorem le_37 {p : Program} {e : Env} {s : State} {m : MethodId} {below : List Frame} {meth : Method} {c : Code} (l : Launch) {b : Nat} {xs : Nat → Int32} {dC : Nat → ClassId} {dI : Nat → Nat → Nat} {csx csm : Nat → ClassId} {adx adm : Nat → Nat} {H : Heap} {locs : List Loc} {ls : Array Slot} (S0 : lw_S p s m meth c b xs dC dI csx csm adx adm H locs ls) : W p l e room_1 s m #[Value.ref b] below meth c H locs 178 3099 (lw_Z below #[Value.ref b] s) (F0 m 1365 ls []) := by
  obtain ⟨C0, hKx, hKm, hPx, hPm, hD, hS, hl⟩ := S0
  have C1 := C0
  obtain ⟨hx, hb, hr, hml, hown0, hts0, hX, hbl, hlocks, hgv⟩ := C0
  have hown : s.vm.findClass RL = some m.cls := hown0
  have hts := hts0
  have hbA : ¬ (fun q : Nat => s.heap.size ≤ q) b := Nat.not_le.mpr hbl
  have hA : ∀ q : Nat, s.heap.size ≤ q → (fun q : Nat => s.heap.size ≤ q) q := fun _ h => h
  have hDx := dl_left hD
  have hDm := dl_right hD
  refine lv_aload_n hx hb dL_law_1365 rfl (lv_at hl 2 rfl) ?_
  refine lv_aload_n hx hb dL_law_1366 rfl (lv_at hl 3 rfl) ?_
  refine lv_iload_n hx hb dL_law_1367 rfl (lv_at hl 0 rfl) ?_
  refine lv_iconst (v := 1) hx hb dL_law_1368 (by decide) ?_
  refine lv_iadd hx hb dL_law_1369 ?_
  refine lq_i 1 (by decide) ?_
  refine va_sld hx hb hX hbl hbA hS (show vp_in 1 6 by unfold vp_in; decide) dL_law_1370 ?_
  refine lq_i (xs 1) rfl ?_
  refine cr_i (va_runV (As := [.int (xs 1)]) (rest := []) ⟨hx, hb, hml, hown, hts⟩ (px_gain l dC dI csx adx H hPx (xs 1)) (cwV 1 hts gq_X11_gain rfl rfl rfl (by decide +kernel) ⟨Nat.le_of_ble_eq_true rfl, Nat.le_of_ble_eq_true rfl⟩) ⟨pb_c, va_recv hKx hPx (ci := 11) (q0 := 0) rfl rfl, pb_m hKx⟩ rfl rfl hl.1 rfl (lv_room (Nat.le_of_ble_eq_true rfl)) dL_law_1371 ⟨Nat.le_of_ble_eq_true rfl, Nat.le_of_ble_eq_true rfl⟩) hS (fun r1 hw1 locs hS => ?_)
  refine lv_aload_n hx hb dL_law_1374 rfl (lv_at hl 1 rfl) ?_
  refine lv_aload_n hx hb dL_law_1375 rfl (lv_at hl 3 rfl) ?_
  refine lv_iload_n hx hb dL_law_1376 rfl (lv_at hl 0 rfl) ?_
  refine lv_iconst (v := 1) hx hb dL_law_1377 (by decide) ?_
  refine lv_iadd hx hb dL_law_1378 ?_
  refine lq_i 1 (by decide) ?_
  refine va_sld hx hb hX hbl hbA hS (show vp_in 1 6 by unfold vp_in; decide) dL_law_1379 ?_
  refine lq_i (xs 1) rfl ?_
  refine cr_i (va_runV (As := [.int (xs 1)]) (rest := [.int r1]) ⟨hx, hb, hml, hown, hts⟩ (pm_gain l dC dI csm adm H hPm (xs 1)) (cwV 1 hts gq_X12_gain rfl rfl rfl (by decide +kernel) ⟨Nat.le_of_ble_eq_true rfl, Nat.le_of_ble_eq_true rfl⟩) ⟨pb_c, va_recv hKm hPm (ci := 12) (q0 := 0) rfl rfl, pb_m hKm⟩ rfl rfl hl.1 rfl (lv_room (Nat.le_of_ble_eq_true rfl)) dL_law_1380 ⟨Nat.le_of_ble_eq_true rfl, Nat.le_of_ble_eq_true rfl⟩) hS (fun r2 hw2 locs hS => ?_)
  refine lv_icmp_eq (tgt := 1644) hx hb dL_law_1383 (by decide) (fun _ => ?_) (fun c => absurd (hw1.trans hw2.symm) c)
  exact le_end l C1 hS hl
set_option maxHeartbeats 4000000 in
set_option maxRecDepth 100000 in
theorem le_38 {p : Program} {e : Env} {s : State} {m : MethodId} {below : List Frame} {meth : Method} {c : Code} (l : Launch) {b : Nat} {xs : Nat → Int32} {dC : Nat → ClassId} {dI : Nat → Nat → Nat} {csx csm : Nat → ClassId} {adx adm : Nat → Nat} {H : Heap} {locs : List Loc} {ls : Array Slot} (S0 : lw_S p s m meth c b xs dC dI csx csm adx adm H locs ls) : W p l e room_1 s m #[Value.ref b] below meth c H locs 178 3099 (lw_Z below #[Value.ref b] s) (F0 m 1388 ls []) := by
  obtain ⟨C0, hKx, hKm, hPx, hPm, hD, hS, hl⟩ := S0
  have C1 := C0
  obtain ⟨hx, hb, hr, hml, hown0, hts0, hX, hbl, hlocks, hgv⟩ := C0
  have hown : s.vm.findClass RL = some m.cls := hown0
  have hts := hts0
  have hbA : ¬ (fun q : Nat => s.heap.size ≤ q) b := Nat.not_le.mpr hbl
  have hA : ∀ q : Nat, s.heap.size ≤ q → (fun q : Nat => s.heap.size ≤ q) q := fun _ h => h
  have hDx := dl_left hD
  have hDm := dl_right hD
  refine lv_aload_n hx hb dL_law_1388 rfl (lv_at hl 2 rfl) ?_
  refine lv_aload_n hx hb dL_law_1389 rfl (lv_at hl 3 rfl) ?_
  refine lv_iload_n hx hb dL_law_1390 rfl (lv_at hl 0 rfl) ?_
  refine lv_iconst (v := 1) hx hb dL_law_1391 (by decide) ?_
  refine lv_iadd hx hb dL_law_1392 ?_
  refine lq_i 1 (by decide) ?_
  refine va_sld hx hb hX hbl hbA hS (show vp_in 1 6 by unfold vp_in; decide) dL_law_1393 ?_
  refine lq_i (xs 1) rfl ?_
  refine lv_aload_n hx hb dL_law_1394 rfl (lv_at hl 3 rfl) ?_
  refine lv_iload_n hx hb dL_law_1395 rfl (lv_at hl 0 rfl) ?_
  refine lv_iconst (v := 2) hx hb dL_law_1396 (by decide) ?_
  refine lv_iadd hx hb dL_law_1397 ?_
  refine lq_i 2 (by decide) ?_
  refine va_sld hx hb hX hbl hbA hS (show vp_in 2 6 by unfold vp_in; decide) dL_law_1398 ?_
  refine lq_i (xs 2) rfl ?_
  have hFx := fr_all hDx hS hA
  refine va_calli (va_runV (As := [.int (xs 1), .int (xs 2)]) (rest := []) ⟨hx, hb, hml, hown, hts⟩ (px_had l dC dI csx adx H hPx (hDx.weaken (fun _ _ _ _ => trivial)) (xs 1) (xs 2)) (cwV 2 hts gq_X11_had rfl rfl rfl (by decide +kernel) ⟨Nat.le_of_ble_eq_true rfl, Nat.le_of_ble_eq_true rfl⟩) ⟨pb_c, va_recv hKx hPx (ci := 11) (q0 := 0) rfl rfl, pb_m hKx⟩ rfl rfl hl.1 rfl (lv_room (Nat.le_of_ble_eq_true rfl)) dL_law_1399 ⟨Nat.le_of_ble_eq_true rfl, Nat.le_of_ble_eq_true rfl⟩) hS (fun q _ h => hFx q h) hFx (fun r1 u t H1 locs ht hvm hw1 hB hz1 hk1 hS => ?_)
  have hPm := kp_rest hD hPm hk1
  refine lv_aload_n hx hb dL_law_1402 rfl (lv_at hl 1 rfl) ?_
  refine lv_aload_n hx hb dL_law_1403 rfl (lv_at hl 3 rfl) ?_
  refine lv_iload_n hx hb dL_law_1404 rfl (lv_at hl 0 rfl) ?_
  refine lv_iconst (v := 1) hx hb dL_law_1405 (by decide) ?_
  refine lv_iadd hx hb dL_law_1406 ?_
  refine lq_i 1 (by decide) ?_
  refine va_sld hx hb hX hbl hbA hS (show vp_in 1 6 by unfold vp_in; decide) dL_law_1407 ?_
  refine lq_i (xs 1) rfl ?_
  refine lv_aload_n hx hb dL_law_1408 rfl (lv_at hl 3 rfl) ?_
  refine lv_iload_n hx hb dL_law_1409 rfl (lv_at hl 0 rfl) ?_
  refine lv_iconst (v := 2) hx hb dL_law_1410 (by decide) ?_
  refine lv_iadd hx hb dL_law_1411 ?_
  refine lq_i 2 (by decide) ?_
  refine va_sld hx hb hX hbl hbA hS (show vp_in 2 6 by unfold vp_in; decide) dL_law_1412 ?_
  refine lq_i (xs 2) rfl ?_
  refine cr_i (va_runV (As := [.int (xs 1), .int (xs 2)]) (rest := [.int r1]) ⟨hx, hb, hml, hown, hts⟩ (pm_had l dC dI csm adm H1 hPm (xs 1) (xs 2)) (cwV 2 hts gq_X12_had rfl rfl rfl (by decide +kernel) ⟨Nat.le_of_ble_eq_true rfl, Nat.le_of_ble_eq_true rfl⟩) ⟨pb_c, va_recv hKm hPm (ci := 12) (q0 := 0) rfl rfl, pb_m hKm⟩ rfl rfl hl.1 rfl (lv_room (Nat.le_of_ble_eq_true rfl)) dL_law_1413 ⟨Nat.le_of_ble_eq_true rfl, Nat.le_of_ble_eq_true rfl⟩) hS (fun r2 hw2 locs hS => ?_)
  refine lv_icmp_eq (tgt := 1644) hx hb dL_law_1416 (by decide) (fun _ => ?_) (fun c => absurd (hw1.trans hw2.symm) c)
  exact le_end l C1 hS hl
set_option maxHeartbeats 4000000 in
set_option maxRecDepth 100000 in
theorem le_39 {p : Program} {e : Env} {s : State} {m : MethodId} {below : List Frame} {meth : Method} {c : Code} (l : Launch) {b : Nat} {xs : Nat → Int32} {dC : Nat → ClassId} {dI : Nat → Nat → Nat} {csx csm : Nat → ClassId} {adx adm : Nat → Nat} {H : Heap} {locs : List Loc} {ls : Array Slot} (S0 : lw_S p s m meth c b xs dC dI csx csm adx adm H locs ls) : W p l e room_1 s m #[Value.ref b] below meth c H locs 178 3099 (lw_Z below #[Value.ref b] s) (F0 m 1421 ls []) := by
  obtain ⟨C0, hKx, hKm, hPx, hPm, hD, hS, hl⟩ := S0
  have C1 := C0
  obtain ⟨hx, hb, hr, hml, hown0, hts0, hX, hbl, hlocks, hgv⟩ := C0
  have hown : s.vm.findClass RL = some m.cls := hown0
  have hts := hts0
  have hbA : ¬ (fun q : Nat => s.heap.size ≤ q) b := Nat.not_le.mpr hbl
  have hA : ∀ q : Nat, s.heap.size ≤ q → (fun q : Nat => s.heap.size ≤ q) q := fun _ h => h
  have hDx := dl_left hD
  have hDm := dl_right hD
  refine lv_aload_n hx hb dL_law_1421 rfl (lv_at hl 2 rfl) ?_
  refine lv_aload_n hx hb dL_law_1422 rfl (lv_at hl 3 rfl) ?_
  refine lv_iload_n hx hb dL_law_1423 rfl (lv_at hl 0 rfl) ?_
  refine lv_iconst (v := 1) hx hb dL_law_1424 (by decide) ?_
  refine lv_iadd hx hb dL_law_1425 ?_
  refine lq_i 1 (by decide) ?_
  refine va_sld hx hb hX hbl hbA hS (show vp_in 1 6 by unfold vp_in; decide) dL_law_1426 ?_
  refine lq_i (xs 1) rfl ?_
  refine lv_aload_n hx hb dL_law_1427 rfl (lv_at hl 3 rfl) ?_
  refine lv_iload_n hx hb dL_law_1428 rfl (lv_at hl 0 rfl) ?_
  refine lv_iconst (v := 2) hx hb dL_law_1429 (by decide) ?_
  refine lv_iadd hx hb dL_law_1430 ?_
  refine lq_i 2 (by decide) ?_
  refine va_sld hx hb hX hbl hbA hS (show vp_in 2 6 by unfold vp_in; decide) dL_law_1431 ?_
  refine lq_i (xs 2) rfl ?_
  have hFx := fr_all hDx hS hA
  refine va_calli (va_runV (As := [.int (xs 1), .int (xs 2)]) (rest := []) ⟨hx, hb, hml, hown, hts⟩ (px_sure l dC dI csx adx H hPx (hDx.weaken (fun _ _ _ _ => trivial)) (xs 1) (xs 2)) (cwV 2 hts gq_X11_sure rfl rfl rfl (by decide +kernel) ⟨Nat.le_of_ble_eq_true rfl, Nat.le_of_ble_eq_true rfl⟩) ⟨pb_c, va_recv hKx hPx (ci := 11) (q0 := 0) rfl rfl, pb_m hKx⟩ rfl rfl hl.1 rfl (lv_room (Nat.le_of_ble_eq_true rfl)) dL_law_1432 ⟨Nat.le_of_ble_eq_true rfl, Nat.le_of_ble_eq_true rfl⟩) hS (fun q _ h => hFx q h) hFx (fun r1 u t H1 locs ht hvm hw1 hB hz1 hk1 hS => ?_)
  have hPm := kp_rest hD hPm hk1
  refine lv_aload_n hx hb dL_law_1435 rfl (lv_at hl 1 rfl) ?_
  refine lv_aload_n hx hb dL_law_1436 rfl (lv_at hl 3 rfl) ?_
  refine lv_iload_n hx hb dL_law_1437 rfl (lv_at hl 0 rfl) ?_
  refine lv_iconst (v := 1) hx hb dL_law_1438 (by decide) ?_
  refine lv_iadd hx hb dL_law_1439 ?_
  refine lq_i 1 (by decide) ?_
  refine va_sld hx hb hX hbl hbA hS (show vp_in 1 6 by unfold vp_in; decide) dL_law_1440 ?_
  refine lq_i (xs 1) rfl ?_
  refine lv_aload_n hx hb dL_law_1441 rfl (lv_at hl 3 rfl) ?_
  refine lv_iload_n hx hb dL_law_1442 rfl (lv_at hl 0 rfl) ?_
  refine lv_iconst (v := 2) hx hb dL_law_1443 (by decide) ?_
  refine lv_iadd hx hb dL_law_1444 ?_
  refine lq_i 2 (by decide) ?_
  refine va_sld hx hb hX hbl hbA hS (show vp_in 2 6 by unfold vp_in; decide) dL_law_1445 ?_
  refine lq_i (xs 2) rfl ?_
  refine cr_i (va_runV (As := [.int (xs 1), .int (xs 2)]) (rest := [.int r1]) ⟨hx, hb, hml, hown, hts⟩ (pm_sure l dC dI csm adm H1 hPm (xs 1) (xs 2)) (cwV 2 hts gq_X12_sure rfl rfl rfl (by decide +kernel) ⟨Nat.le_of_ble_eq_true rfl, Nat.le_of_ble_eq_true rfl⟩) ⟨pb_c, va_recv hKm hPm (ci := 12) (q0 := 0) rfl rfl, pb_m hKm⟩ rfl rfl hl.1 rfl (lv_room (Nat.le_of_ble_eq_true rfl)) dL_law_1446 ⟨Nat.le_of_ble_eq_true rfl, Nat.le_of_ble_eq_true rfl⟩) hS (fun r2 hw2 locs hS => ?_)
  refine lv_icmp_eq (tgt := 1644) hx hb dL_law_1449 (by decide) (fun _ => ?_) (fun c => absurd (hw1.trans hw2.symm) c)
  exact le_end l C1 hS hl
set_option maxHeartbeats 4000000 in
set_option maxRecDepth 100000 in
theorem le_40 {p : Program} {e : Env} {s : State} {m : MethodId} {below : List Frame} {meth : Method} {c : Code} (l : Launch) {b : Nat} {xs : Nat → Int32} {dC : Nat → ClassId} {dI : Nat → Nat → Nat} {csx csm : Nat → ClassId} {adx adm : Nat → Nat} {H : Heap} {locs : List Loc} {ls : Array Slot} (S0 : lw_S p s m meth c b xs dC dI csx csm adx adm H locs ls) : W p l e room_1 s m #[Value.ref b] below meth c H locs 178 3099 (lw_Z below #[Value.ref b] s) (F0 m 1454 ls []) := by
  obtain ⟨C0, hKx, hKm, hPx, hPm, hD, hS, hl⟩ := S0
  have C1 := C0
  obtain ⟨hx, hb, hr, hml, hown0, hts0, hX, hbl, hlocks, hgv⟩ := C0
  have hown : s.vm.findClass RL = some m.cls := hown0
  have hts := hts0
  have hbA : ¬ (fun q : Nat => s.heap.size ≤ q) b := Nat.not_le.mpr hbl
  have hA : ∀ q : Nat, s.heap.size ≤ q → (fun q : Nat => s.heap.size ≤ q) q := fun _ h => h
  have hDx := dl_left hD
  have hDm := dl_right hD
  refine lv_aload_n hx hb dL_law_1454 rfl (lv_at hl 2 rfl) ?_
  refine lv_aload_n hx hb dL_law_1455 rfl (lv_at hl 3 rfl) ?_
  refine lv_iload_n hx hb dL_law_1456 rfl (lv_at hl 0 rfl) ?_
  refine lv_iconst (v := 1) hx hb dL_law_1457 (by decide) ?_
  refine lv_iadd hx hb dL_law_1458 ?_
  refine lq_i 1 (by decide) ?_
  refine va_sld hx hb hX hbl hbA hS (show vp_in 1 6 by unfold vp_in; decide) dL_law_1459 ?_
  refine lq_i (xs 1) rfl ?_
  refine lv_aload_n hx hb dL_law_1460 rfl (lv_at hl 3 rfl) ?_
  refine lv_iload_n hx hb dL_law_1461 rfl (lv_at hl 0 rfl) ?_
  refine lv_iconst (v := 2) hx hb dL_law_1462 (by decide) ?_
  refine lv_iadd hx hb dL_law_1463 ?_
  refine lq_i 2 (by decide) ?_
  refine va_sld hx hb hX hbl hbA hS (show vp_in 2 6 by unfold vp_in; decide) dL_law_1464 ?_
  refine lq_i (xs 2) rfl ?_
  refine lv_aload_n hx hb dL_law_1465 rfl (lv_at hl 3 rfl) ?_
  refine lv_iload_n hx hb dL_law_1466 rfl (lv_at hl 0 rfl) ?_
  refine lv_iconst (v := 3) hx hb dL_law_1467 (by decide) ?_
  refine lv_iadd hx hb dL_law_1468 ?_
  refine lq_i 3 (by decide) ?_
  refine va_sld hx hb hX hbl hbA hS (show vp_in 3 6 by unfold vp_in; decide) dL_law_1469 ?_
  refine lq_i (xs 3) rfl ?_
  have hFx := fr_all hDx hS hA
  refine va_calli (va_runV (As := [.int (xs 1), .int (xs 2), .int (xs 3)]) (rest := []) ⟨hx, hb, hml, hown, hts⟩ (px_first l dC dI csx adx H hPx (hDx.weaken (fun _ _ _ _ => trivial)) (xs 1) (xs 2) (xs 3)) (cwV 3 hts gq_X11_first rfl rfl rfl (by decide +kernel) ⟨Nat.le_of_ble_eq_true rfl, Nat.le_of_ble_eq_true rfl⟩) ⟨pb_c, va_recv hKx hPx (ci := 11) (q0 := 0) rfl rfl, pb_m hKx⟩ rfl rfl hl.1 rfl (lv_room (Nat.le_of_ble_eq_true rfl)) dL_law_1470 ⟨Nat.le_of_ble_eq_true rfl, Nat.le_of_ble_eq_true rfl⟩) hS (fun q _ h => hFx q h) hFx (fun r1 u t H1 locs ht hvm hw1 hB hz1 hk1 hS => ?_)
  have hPm := kp_rest hD hPm hk1
  refine lv_aload_n hx hb dL_law_1473 rfl (lv_at hl 1 rfl) ?_
  refine lv_aload_n hx hb dL_law_1474 rfl (lv_at hl 3 rfl) ?_
  refine lv_iload_n hx hb dL_law_1475 rfl (lv_at hl 0 rfl) ?_
  refine lv_iconst (v := 1) hx hb dL_law_1476 (by decide) ?_
  refine lv_iadd hx hb dL_law_1477 ?_
  refine lq_i 1 (by decide) ?_
  refine va_sld hx hb hX hbl hbA hS (show vp_in 1 6 by unfold vp_in; decide) dL_law_1478 ?_
  refine lq_i (xs 1) rfl ?_
  refine lv_aload_n hx hb dL_law_1479 rfl (lv_at hl 3 rfl) ?_
  refine lv_iload_n hx hb dL_law_1480 rfl (lv_at hl 0 rfl) ?_
  refine lv_iconst (v := 2) hx hb dL_law_1481 (by decide) ?_
  refine lv_iadd hx hb dL_law_1482 ?_
  refine lq_i 2 (by decide) ?_
  refine va_sld hx hb hX hbl hbA hS (show vp_in 2 6 by unfold vp_in; decide) dL_law_1483 ?_
  refine lq_i (xs 2) rfl ?_
  refine lv_aload_n hx hb dL_law_1484 rfl (lv_at hl 3 rfl) ?_
  refine lv_iload_n hx hb dL_law_1485 rfl (lv_at hl 0 rfl) ?_
  refine lv_iconst (v := 3) hx hb dL_law_1486 (by decide) ?_
  refine lv_iadd hx hb dL_law_1487 ?_
  refine lq_i 3 (by decide) ?_
  refine va_sld hx hb hX hbl hbA hS (show vp_in 3 6 by unfold vp_in; decide) dL_law_1488 ?_
  refine lq_i (xs 3) rfl ?_
  refine cr_i (va_runV (As := [.int (xs 1), .int (xs 2), .int (xs 3)]) (rest := [.int r1]) ⟨hx, hb, hml, hown, hts⟩ (pm_first l dC dI csm adm H1 hPm (xs 1) (xs 2) (xs 3)) (cwV 3 hts gq_X12_first rfl rfl rfl (by decide +kernel) ⟨Nat.le_of_ble_eq_true rfl, Nat.le_of_ble_eq_true rfl⟩) ⟨pb_c, va_recv hKm hPm (ci := 12) (q0 := 0) rfl rfl, pb_m hKm⟩ rfl rfl hl.1 rfl (lv_room (Nat.le_of_ble_eq_true rfl)) dL_law_1489 ⟨Nat.le_of_ble_eq_true rfl, Nat.le_of_ble_eq_true rfl⟩) hS (fun r2 hw2 locs hS => ?_)
  refine lv_icmp_eq (tgt := 1644) hx hb dL_law_1492 (by decide) (fun _ => ?_) (fun c => absurd (hw1.trans hw2.symm) c)
  exact le_end l C1 hS hl
set_option maxHeartbeats 4000000 in
set_option maxRecDepth 100000 in
theorem le_41 {p : Program} {e : Env} {s : State} {m : MethodId} {below : List Frame} {meth : Method} {c : Code} (l : Launch) {b : Nat} {xs : Nat → Int32} {dC : Nat → ClassId} {dI : Nat → Nat → Nat} {csx csm : Nat → ClassId} {adx adm : Nat → Nat} {H : Heap} {locs : List Loc} {ls : Array Slot} (S0 : lw_S p s m meth c b xs dC dI csx csm adx adm H locs ls) : W p l e room_1 s m #[Value.ref b] below meth c H locs 178 3099 (lw_Z below #[Value.ref b] s) (F0 m 1497 ls []) := by
  obtain ⟨C0, hKx, hKm, hPx, hPm, hD, hS, hl⟩ := S0
  have C1 := C0
  obtain ⟨hx, hb, hr, hml, hown0, hts0, hX, hbl, hlocks, hgv⟩ := C0
  have hown : s.vm.findClass RL = some m.cls := hown0
  have hts := hts0
  have hbA : ¬ (fun q : Nat => s.heap.size ≤ q) b := Nat.not_le.mpr hbl
  have hA : ∀ q : Nat, s.heap.size ≤ q → (fun q : Nat => s.heap.size ≤ q) q := fun _ h => h
  have hDx := dl_left hD
  have hDm := dl_right hD
  refine lv_aload_n hx hb dL_law_1497 rfl (lv_at hl 2 rfl) ?_
  refine lv_aload_n hx hb dL_law_1498 rfl (lv_at hl 3 rfl) ?_
  refine lv_iload_n hx hb dL_law_1499 rfl (lv_at hl 0 rfl) ?_
  refine lv_iconst (v := 1) hx hb dL_law_1500 (by decide) ?_
  refine lv_iadd hx hb dL_law_1501 ?_
  refine lq_i 1 (by decide) ?_
  refine va_sld hx hb hX hbl hbA hS (show vp_in 1 6 by unfold vp_in; decide) dL_law_1502 ?_
  refine lq_i (xs 1) rfl ?_
  refine lv_aload_n hx hb dL_law_1503 rfl (lv_at hl 3 rfl) ?_
  refine lv_iload_n hx hb dL_law_1504 rfl (lv_at hl 0 rfl) ?_
  refine lv_iconst (v := 2) hx hb dL_law_1505 (by decide) ?_
  refine lv_iadd hx hb dL_law_1506 ?_
  refine lq_i 2 (by decide) ?_
  refine va_sld hx hb hX hbl hbA hS (show vp_in 2 6 by unfold vp_in; decide) dL_law_1507 ?_
  refine lq_i (xs 2) rfl ?_
  refine cr_i (va_runV (As := [.int (xs 1), .int (xs 2)]) (rest := []) ⟨hx, hb, hml, hown, hts⟩ (px_luck l dC dI csx adx H hPx (xs 1) (xs 2)) (cwV 2 hts gq_X11_luck rfl rfl rfl (by decide +kernel) ⟨Nat.le_of_ble_eq_true rfl, Nat.le_of_ble_eq_true rfl⟩) ⟨pb_c, va_recv hKx hPx (ci := 11) (q0 := 0) rfl rfl, pb_m hKx⟩ rfl rfl hl.1 rfl (lv_room (Nat.le_of_ble_eq_true rfl)) dL_law_1508 ⟨Nat.le_of_ble_eq_true rfl, Nat.le_of_ble_eq_true rfl⟩) hS (fun r1 hw1 locs hS => ?_)
  refine lv_aload_n hx hb dL_law_1511 rfl (lv_at hl 1 rfl) ?_
  refine lv_aload_n hx hb dL_law_1512 rfl (lv_at hl 3 rfl) ?_
  refine lv_iload_n hx hb dL_law_1513 rfl (lv_at hl 0 rfl) ?_
  refine lv_iconst (v := 1) hx hb dL_law_1514 (by decide) ?_
  refine lv_iadd hx hb dL_law_1515 ?_
  refine lq_i 1 (by decide) ?_
  refine va_sld hx hb hX hbl hbA hS (show vp_in 1 6 by unfold vp_in; decide) dL_law_1516 ?_
  refine lq_i (xs 1) rfl ?_
  refine lv_aload_n hx hb dL_law_1517 rfl (lv_at hl 3 rfl) ?_
  refine lv_iload_n hx hb dL_law_1518 rfl (lv_at hl 0 rfl) ?_
  refine lv_iconst (v := 2) hx hb dL_law_1519 (by decide) ?_
  refine lv_iadd hx hb dL_law_1520 ?_
  refine lq_i 2 (by decide) ?_
  refine va_sld hx hb hX hbl hbA hS (show vp_in 2 6 by unfold vp_in; decide) dL_law_1521 ?_
  refine lq_i (xs 2) rfl ?_
  refine cr_i (va_runV (As := [.int (xs 1), .int (xs 2)]) (rest := [.int r1]) ⟨hx, hb, hml, hown, hts⟩ (pm_luck l dC dI csm adm H hPm (xs 1) (xs 2)) (cwV 2 hts gq_X12_luck rfl rfl rfl (by decide +kernel) ⟨Nat.le_of_ble_eq_true rfl, Nat.le_of_ble_eq_true rfl⟩) ⟨pb_c, va_recv hKm hPm (ci := 12) (q0 := 0) rfl rfl, pb_m hKm⟩ rfl rfl hl.1 rfl (lv_room (Nat.le_of_ble_eq_true rfl)) dL_law_1522 ⟨Nat.le_of_ble_eq_true rfl, Nat.le_of_ble_eq_true rfl⟩) hS (fun r2 hw2 locs hS => ?_)
  refine lv_icmp_eq (tgt := 1644) hx hb dL_law_1525 (by decide) (fun _ => ?_) (fun c => absurd (hw1.trans hw2.symm) c)
  exact le_end l C1 hS hl
set_option maxHeartbeats 4000000 in
set_option maxRecDepth 100000 in
theorem le_42 {p : Program} {e : Env} {s : State} {m : MethodId} {below : List Frame} {meth : Method} {c : Code} (l : Launch) {b : Nat} {xs : Nat → Int32} {dC : Nat → ClassId} {dI : Nat → Nat → Nat} {csx csm : Nat → ClassId} {adx adm : Nat → Nat} {H : Heap} {locs : List Loc} {ls : Array Slot} (S0 : lw_S p s m meth c b xs dC dI csx csm adx adm H locs ls) : W p l e room_1 s m #[Value.ref b] below meth c H locs 178 3099 (lw_Z below #[Value.ref b] s) (F0 m 1530 ls []) := by
  obtain ⟨C0, hKx, hKm, hPx, hPm, hD, hS, hl⟩ := S0
  have C1 := C0
  obtain ⟨hx, hb, hr, hml, hown0, hts0, hX, hbl, hlocks, hgv⟩ := C0
  have hown : s.vm.findClass RL = some m.cls := hown0
  have hts := hts0
  have hbA : ¬ (fun q : Nat => s.heap.size ≤ q) b := Nat.not_le.mpr hbl
  have hA : ∀ q : Nat, s.heap.size ≤ q → (fun q : Nat => s.heap.size ≤ q) q := fun _ h => h
  have hDx := dl_left hD
  have hDm := dl_right hD
  refine lv_aload_n hx hb dL_law_1530 rfl (lv_at hl 2 rfl) ?_
  refine cr_i (va_runV (As := []) (rest := []) ⟨hx, hb, hml, hown, hts⟩ (px_asked l dC dI csx adx H hPx) (cwV 0 hts gq_X11_asked rfl rfl rfl (by decide +kernel) ⟨Nat.le_of_ble_eq_true rfl, Nat.le_of_ble_eq_true rfl⟩) ⟨pb_c, va_recv hKx hPx (ci := 11) (q0 := 0) rfl rfl, pb_m hKx⟩ rfl rfl hl.1 rfl (lv_room (Nat.le_of_ble_eq_true rfl)) dL_law_1531 ⟨Nat.le_of_ble_eq_true rfl, Nat.le_of_ble_eq_true rfl⟩) hS (fun r1 hw1 locs hS => ?_)
  refine lv_aload_n hx hb dL_law_1534 rfl (lv_at hl 1 rfl) ?_
  refine cr_i (va_runV (As := []) (rest := [.int r1]) ⟨hx, hb, hml, hown, hts⟩ (pm_asked l dC dI csm adm H hPm) (cwV 0 hts gq_X12_asked rfl rfl rfl (by decide +kernel) ⟨Nat.le_of_ble_eq_true rfl, Nat.le_of_ble_eq_true rfl⟩) ⟨pb_c, va_recv hKm hPm (ci := 12) (q0 := 0) rfl rfl, pb_m hKm⟩ rfl rfl hl.1 rfl (lv_room (Nat.le_of_ble_eq_true rfl)) dL_law_1535 ⟨Nat.le_of_ble_eq_true rfl, Nat.le_of_ble_eq_true rfl⟩) hS (fun r2 hw2 locs hS => ?_)
  refine lv_icmp_eq (tgt := 1644) hx hb dL_law_1538 (by decide) (fun _ => ?_) (fun c => absurd (hw1.trans hw2.symm) c)
  exact le_end l C1 hS hl
set_option maxHeartbeats 4000000 in
set_option maxRecDepth 100000 in
theorem le_43 {p : Program} {e : Env} {s : State} {m : MethodId} {below : List Frame} {meth : Method} {c : Code} (l : Launch) {b : Nat} {xs : Nat → Int32} {dC : Nat → ClassId} {dI : Nat → Nat → Nat} {csx csm : Nat → ClassId} {adx adm : Nat → Nat} {H : Heap} {locs : List Loc} {ls : Array Slot} (S0 : lw_S p s m meth c b xs dC dI csx csm adx adm H locs ls) : W p l e room_1 s m #[Value.ref b] below meth c H locs 178 3099 (lw_Z below #[Value.ref b] s) (F0 m 1543 ls []) := by
  obtain ⟨C0, hKx, hKm, hPx, hPm, hD, hS, hl⟩ := S0
  have C1 := C0
  obtain ⟨hx, hb, hr, hml, hown0, hts0, hX, hbl, hlocks, hgv⟩ := C0
  have hown : s.vm.findClass RL = some m.cls := hown0
  have hts := hts0
  have hbA : ¬ (fun q : Nat => s.heap.size ≤ q) b := Nat.not_le.mpr hbl
  have hA : ∀ q : Nat, s.heap.size ≤ q → (fun q : Nat => s.heap.size ≤ q) q := fun _ h => h
  have hDx := dl_left hD
  have hDm := dl_right hD
  refine lv_aload_n hx hb dL_law_1543 rfl (lv_at hl 2 rfl) ?_
  refine cr_l (va_runV (As := []) (rest := []) ⟨hx, hb, hml, hown, hts⟩ (px_upper l dC dI csx adx H hPx) (cwV 0 hts gq_X11_upper rfl rfl rfl (by decide +kernel) ⟨Nat.le_of_ble_eq_true rfl, Nat.le_of_ble_eq_true rfl⟩) ⟨pb_c, va_recv hKx hPx (ci := 11) (q0 := 0) rfl rfl, pb_m hKx⟩ rfl rfl hl.1 rfl (lv_room (Nat.le_of_ble_eq_true rfl)) dL_law_1544 ⟨Nat.le_of_ble_eq_true rfl, Nat.le_of_ble_eq_true rfl⟩) hS (fun r1 hw1 locs hS => ?_)
  refine lv_aload_n hx hb dL_law_1547 rfl (lv_at hl 1 rfl) ?_
  refine cr_l (va_runV (As := []) (rest := [.long r1]) ⟨hx, hb, hml, hown, hts⟩ (pm_upper l dC dI csm adm H hPm) (cwV 0 hts gq_X12_upper rfl rfl rfl (by decide +kernel) ⟨Nat.le_of_ble_eq_true rfl, Nat.le_of_ble_eq_true rfl⟩) ⟨pb_c, va_recv hKm hPm (ci := 12) (q0 := 0) rfl rfl, pb_m hKm⟩ rfl rfl hl.1 rfl (lv_room (Nat.le_of_ble_eq_true rfl)) dL_law_1548 ⟨Nat.le_of_ble_eq_true rfl, Nat.le_of_ble_eq_true rfl⟩) hS (fun r2 hw2 locs hS => ?_)
  refine W.lcmp hx hb dL_law_1551 ?_
  refine lq_i 0 (lg_same (hw1.trans hw2.symm)) ?_
  refine lv_if_eq (tgt := 1644) hx hb dL_law_1552 (by decide) (fun _ => ?_) (fun c => absurd rfl c)
  exact le_end l C1 hS hl
set_option maxHeartbeats 4000000 in
set_option maxRecDepth 100000 in
theorem le_44 {p : Program} {e : Env} {s : State} {m : MethodId} {below : List Frame} {meth : Method} {c : Code} (l : Launch) {b : Nat} {xs : Nat → Int32} {dC : Nat → ClassId} {dI : Nat → Nat → Nat} {csx csm : Nat → ClassId} {adx adm : Nat → Nat} {H : Heap} {locs : List Loc} {ls : Array Slot} (S0 : lw_S p s m meth c b xs dC dI csx csm adx adm H locs ls) : W p l e room_1 s m #[Value.ref b] below meth c H locs 178 3099 (lw_Z below #[Value.ref b] s) (F0 m 1557 ls []) := by
  obtain ⟨C0, hKx, hKm, hPx, hPm, hD, hS, hl⟩ := S0
  have C1 := C0
  obtain ⟨hx, hb, hr, hml, hown0, hts0, hX, hbl, hlocks, hgv⟩ := C0
  have hown : s.vm.findClass RL = some m.cls := hown0
  have hts := hts0
  have hbA : ¬ (fun q : Nat => s.heap.size ≤ q) b := Nat.not_le.mpr hbl
  have hA : ∀ q : Nat, s.heap.size ≤ q → (fun q : Nat => s.heap.size ≤ q) q := fun _ h => h
  have hDx := dl_left hD
  have hDm := dl_right hD
  refine lv_aload_n hx hb dL_law_1557 rfl (lv_at hl 2 rfl) ?_
  refine cr_l (va_runV (As := []) (rest := []) ⟨hx, hb, hml, hown, hts⟩ (px_lower l dC dI csx adx H hPx) (cwV 0 hts gq_X11_lower rfl rfl rfl (by decide +kernel) ⟨Nat.le_of_ble_eq_true rfl, Nat.le_of_ble_eq_true rfl⟩) ⟨pb_c, va_recv hKx hPx (ci := 11) (q0 := 0) rfl rfl, pb_m hKx⟩ rfl rfl hl.1 rfl (lv_room (Nat.le_of_ble_eq_true rfl)) dL_law_1558 ⟨Nat.le_of_ble_eq_true rfl, Nat.le_of_ble_eq_true rfl⟩) hS (fun r1 hw1 locs hS => ?_)
  refine lv_aload_n hx hb dL_law_1561 rfl (lv_at hl 1 rfl) ?_
  refine cr_l (va_runV (As := []) (rest := [.long r1]) ⟨hx, hb, hml, hown, hts⟩ (pm_lower l dC dI csm adm H hPm) (cwV 0 hts gq_X12_lower rfl rfl rfl (by decide +kernel) ⟨Nat.le_of_ble_eq_true rfl, Nat.le_of_ble_eq_true rfl⟩) ⟨pb_c, va_recv hKm hPm (ci := 12) (q0 := 0) rfl rfl, pb_m hKm⟩ rfl rfl hl.1 rfl (lv_room (Nat.le_of_ble_eq_true rfl)) dL_law_1562 ⟨Nat.le_of_ble_eq_true rfl, Nat.le_of_ble_eq_true rfl⟩) hS (fun r2 hw2 locs hS => ?_)
  refine W.lcmp hx hb dL_law_1565 ?_
  refine lq_i 0 (lg_same (hw1.trans hw2.symm)) ?_
  refine lv_if_eq (tgt := 1644) hx hb dL_law_1566 (by decide) (fun _ => ?_) (fun c => absurd rfl c)
  exact le_end l C1 hS hl
set_option maxHeartbeats 4000000 in
set_option maxRecDepth 100000 in
theorem le_45 {p : Program} {e : Env} {s : State} {m : MethodId} {below : List Frame} {meth : Method} {c : Code} (l : Launch) {b : Nat} {xs : Nat → Int32} {dC : Nat → ClassId} {dI : Nat → Nat → Nat} {csx csm : Nat → ClassId} {adx adm : Nat → Nat} {H : Heap} {locs : List Loc} {ls : Array Slot} (S0 : lw_S p s m meth c b xs dC dI csx csm adx adm H locs ls) : W p l e room_1 s m #[Value.ref b] below meth c H locs 178 3099 (lw_Z below #[Value.ref b] s) (F0 m 1571 ls []) := by
  obtain ⟨C0, hKx, hKm, hPx, hPm, hD, hS, hl⟩ := S0
  have C1 := C0
  obtain ⟨hx, hb, hr, hml, hown0, hts0, hX, hbl, hlocks, hgv⟩ := C0
  have hown : s.vm.findClass RL = some m.cls := hown0
  have hts := hts0
  have hbA : ¬ (fun q : Nat => s.heap.size ≤ q) b := Nat.not_le.mpr hbl
  have hA : ∀ q : Nat, s.heap.size ≤ q → (fun q : Nat => s.heap.size ≤ q) q := fun _ h => h
  have hDx := dl_left hD
  have hDm := dl_right hD
  refine lv_aload_n hx hb dL_law_1571 rfl (lv_at hl 2 rfl) ?_
  refine lv_aload_n hx hb dL_law_1572 rfl (lv_at hl 3 rfl) ?_
  refine lv_iload_n hx hb dL_law_1573 rfl (lv_at hl 0 rfl) ?_
  refine lv_iconst (v := 1) hx hb dL_law_1574 (by decide) ?_
  refine lv_iadd hx hb dL_law_1575 ?_
  refine lq_i 1 (by decide) ?_
  refine va_sld hx hb hX hbl hbA hS (show vp_in 1 6 by unfold vp_in; decide) dL_law_1576 ?_
  refine lq_i (xs 1) rfl ?_
  refine cr_i (va_runV (As := [.int (xs 1)]) (rest := []) ⟨hx, hb, hml, hown, hts⟩ (px_count l dC dI csx adx H hPx (xs 1)) (cwV 1 hts gq_X11_count rfl rfl rfl (by decide +kernel) ⟨Nat.le_of_ble_eq_true rfl, Nat.le_of_ble_eq_true rfl⟩) ⟨pb_c, va_recv hKx hPx (ci := 11) (q0 := 0) rfl rfl, pb_m hKx⟩ rfl rfl hl.1 rfl (lv_room (Nat.le_of_ble_eq_true rfl)) dL_law_1577 ⟨Nat.le_of_ble_eq_true rfl, Nat.le_of_ble_eq_true rfl⟩) hS (fun r1 hw1 locs hS => ?_)
  refine lv_aload_n hx hb dL_law_1580 rfl (lv_at hl 1 rfl) ?_
  refine lv_aload_n hx hb dL_law_1581 rfl (lv_at hl 3 rfl) ?_
  refine lv_iload_n hx hb dL_law_1582 rfl (lv_at hl 0 rfl) ?_
  refine lv_iconst (v := 1) hx hb dL_law_1583 (by decide) ?_
  refine lv_iadd hx hb dL_law_1584 ?_
  refine lq_i 1 (by decide) ?_
  refine va_sld hx hb hX hbl hbA hS (show vp_in 1 6 by unfold vp_in; decide) dL_law_1585 ?_
  refine lq_i (xs 1) rfl ?_
  refine cr_i (va_runV (As := [.int (xs 1)]) (rest := [.int r1]) ⟨hx, hb, hml, hown, hts⟩ (pm_count l dC dI csm adm H hPm (xs 1)) (cwV 1 hts gq_X12_count rfl rfl rfl (by decide +kernel) ⟨Nat.le_of_ble_eq_true rfl, Nat.le_of_ble_eq_true rfl⟩) ⟨pb_c, va_recv hKm hPm (ci := 12) (q0 := 0) rfl rfl, pb_m hKm⟩ rfl rfl hl.1 rfl (lv_room (Nat.le_of_ble_eq_true rfl)) dL_law_1586 ⟨Nat.le_of_ble_eq_true rfl, Nat.le_of_ble_eq_true rfl⟩) hS (fun r2 hw2 locs hS => ?_)
  refine lv_icmp_eq (tgt := 1644) hx hb dL_law_1589 (by decide) (fun _ => ?_) (fun c => absurd (hw1.trans hw2.symm) c)
  exact le_end l C1 hS hl
set_option maxHeartbeats 4000000 in
set_option maxRecDepth 100000 in
theorem le_46 {p : Program} {e : Env} {s : State} {m : MethodId} {below : List Frame} {meth : Method} {c : Code} (l : Launch) {b : Nat} {xs : Nat → Int32} {dC : Nat → ClassId} {dI : Nat → Nat → Nat} {csx csm : Nat → ClassId} {adx adm : Nat → Nat} {H : Heap} {locs : List Loc} {ls : Array Slot} (S0 : lw_S p s m meth c b xs dC dI csx csm adx adm H locs ls) : W p l e room_1 s m #[Value.ref b] below meth c H locs 178 3099 (lw_Z below #[Value.ref b] s) (F0 m 1594 ls []) := by
  obtain ⟨C0, hKx, hKm, hPx, hPm, hD, hS, hl⟩ := S0
  have C1 := C0
  obtain ⟨hx, hb, hr, hml, hown0, hts0, hX, hbl, hlocks, hgv⟩ := C0
  have hown : s.vm.findClass RL = some m.cls := hown0
  have hts := hts0
  have hbA : ¬ (fun q : Nat => s.heap.size ≤ q) b := Nat.not_le.mpr hbl
  have hA : ∀ q : Nat, s.heap.size ≤ q → (fun q : Nat => s.heap.size ≤ q) q := fun _ h => h
  have hDx := dl_left hD
  have hDm := dl_right hD
  refine lv_aload_n hx hb dL_law_1594 rfl (lv_at hl 2 rfl) ?_
  refine cr_i (va_runV (As := []) (rest := []) ⟨hx, hb, hml, hown, hts⟩ (px_finding l dC dI csx adx H hPx) (cwV 0 hts gq_X11_finding rfl rfl rfl (by decide +kernel) ⟨Nat.le_of_ble_eq_true rfl, Nat.le_of_ble_eq_true rfl⟩) ⟨pb_c, va_recv hKx hPx (ci := 11) (q0 := 0) rfl rfl, pb_m hKx⟩ rfl rfl hl.1 rfl (lv_room (Nat.le_of_ble_eq_true rfl)) dL_law_1595 ⟨Nat.le_of_ble_eq_true rfl, Nat.le_of_ble_eq_true rfl⟩) hS (fun r1 hw1 locs hS => ?_)
  refine lv_aload_n hx hb dL_law_1598 rfl (lv_at hl 1 rfl) ?_
  refine cr_i (va_runV (As := []) (rest := [.int r1]) ⟨hx, hb, hml, hown, hts⟩ (pm_finding l dC dI csm adm H hPm) (cwV 0 hts gq_X12_finding rfl rfl rfl (by decide +kernel) ⟨Nat.le_of_ble_eq_true rfl, Nat.le_of_ble_eq_true rfl⟩) ⟨pb_c, va_recv hKm hPm (ci := 12) (q0 := 0) rfl rfl, pb_m hKm⟩ rfl rfl hl.1 rfl (lv_room (Nat.le_of_ble_eq_true rfl)) dL_law_1599 ⟨Nat.le_of_ble_eq_true rfl, Nat.le_of_ble_eq_true rfl⟩) hS (fun r2 hw2 locs hS => ?_)
  refine lv_icmp_eq (tgt := 1644) hx hb dL_law_1602 (by decide) (fun _ => ?_) (fun c => absurd (hw1.trans hw2.symm) c)
  exact le_end l C1 hS hl
set_option maxHeartbeats 4000000 in
set_option maxRecDepth 100000 in
theorem le_47 {p : Program} {e : Env} {s : State} {m : MethodId} {below : List Frame} {meth : Method} {c : Code} (l : Launch) {b : Nat} {xs : Nat → Int32} {dC : Nat → ClassId} {dI : Nat → Nat → Nat} {csx csm : Nat → ClassId} {adx adm : Nat → Nat} {H : Heap} {locs : List Loc} {ls : Array Slot} (S0 : lw_S p s m meth c b xs dC dI csx csm adx adm H locs ls) : W p l e room_1 s m #[Value.ref b] below meth c H locs 178 3099 (lw_Z below #[Value.ref b] s) (F0 m 1607 ls []) := by
  obtain ⟨C0, hKx, hKm, hPx, hPm, hD, hS, hl⟩ := S0
  have C1 := C0
  obtain ⟨hx, hb, hr, hml, hown0, hts0, hX, hbl, hlocks, hgv⟩ := C0
  have hown : s.vm.findClass RL = some m.cls := hown0
  have hts := hts0
  have hbA : ¬ (fun q : Nat => s.heap.size ≤ q) b := Nat.not_le.mpr hbl
  have hA : ∀ q : Nat, s.heap.size ≤ q → (fun q : Nat => s.heap.size ≤ q) q := fun _ h => h
  have hDx := dl_left hD
  have hDm := dl_right hD
  refine lv_aload_n hx hb dL_law_1607 rfl (lv_at hl 2 rfl) ?_
  refine lv_aload_n hx hb dL_law_1608 rfl (lv_at hl 3 rfl) ?_
  refine lv_iload_n hx hb dL_law_1609 rfl (lv_at hl 0 rfl) ?_
  refine lv_iconst (v := 1) hx hb dL_law_1610 (by decide) ?_
  refine lv_iadd hx hb dL_law_1611 ?_
  refine lq_i 1 (by decide) ?_
  refine va_sld hx hb hX hbl hbA hS (show vp_in 1 6 by unfold vp_in; decide) dL_law_1612 ?_
  refine lq_i (xs 1) rfl ?_
  refine cr_i (va_runV (As := [.int (xs 1)]) (rest := []) ⟨hx, hb, hml, hown, hts⟩ (px_findings l dC dI csx adx H hPx (xs 1)) (cwV 1 hts gq_X11_findings rfl rfl rfl (by decide +kernel) ⟨Nat.le_of_ble_eq_true rfl, Nat.le_of_ble_eq_true rfl⟩) ⟨pb_c, va_recv hKx hPx (ci := 11) (q0 := 0) rfl rfl, pb_m hKx⟩ rfl rfl hl.1 rfl (lv_room (Nat.le_of_ble_eq_true rfl)) dL_law_1613 ⟨Nat.le_of_ble_eq_true rfl, Nat.le_of_ble_eq_true rfl⟩) hS (fun r1 hw1 locs hS => ?_)
  refine lv_aload_n hx hb dL_law_1616 rfl (lv_at hl 1 rfl) ?_
  refine lv_aload_n hx hb dL_law_1617 rfl (lv_at hl 3 rfl) ?_
  refine lv_iload_n hx hb dL_law_1618 rfl (lv_at hl 0 rfl) ?_
  refine lv_iconst (v := 1) hx hb dL_law_1619 (by decide) ?_
  refine lv_iadd hx hb dL_law_1620 ?_
  refine lq_i 1 (by decide) ?_
  refine va_sld hx hb hX hbl hbA hS (show vp_in 1 6 by unfold vp_in; decide) dL_law_1621 ?_
  refine lq_i (xs 1) rfl ?_
  refine cr_i (va_runV (As := [.int (xs 1)]) (rest := [.int r1]) ⟨hx, hb, hml, hown, hts⟩ (pm_findings l dC dI csm adm H hPm (xs 1)) (cwV 1 hts gq_X12_findings rfl rfl rfl (by decide +kernel) ⟨Nat.le_of_ble_eq_true rfl, Nat.le_of_ble_eq_true rfl⟩) ⟨pb_c, va_recv hKm hPm (ci := 12) (q0 := 0) rfl rfl, pb_m hKm⟩ rfl rfl hl.1 rfl (lv_room (Nat.le_of_ble_eq_true rfl)) dL_law_1622 ⟨Nat.le_of_ble_eq_true rfl, Nat.le_of_ble_eq_true rfl⟩) hS (fun r2 hw2 locs hS => ?_)
  refine lv_icmp_eq (tgt := 1644) hx hb dL_law_1625 (by decide) (fun _ => ?_) (fun c => absurd (hw1.trans hw2.symm) c)
  exact le_end l C1 hS hl
set_option maxHeartbeats 4000000 in
set_option maxRecDepth 100000 in
theorem le_48 {p : Program} {e : Env} {s : State} {m : MethodId} {below : List Frame} {meth : Method} {c : Code} (l : Launch) {b : Nat} {xs : Nat → Int32} {dC : Nat → ClassId} {dI : Nat → Nat → Nat} {csx csm : Nat → ClassId} {adx adm : Nat → Nat} {H : Heap} {locs : List Loc} {ls : Array Slot} (S0 : lw_S p s m meth c b xs dC dI csx csm adx adm H locs ls) : W p l e room_1 s m #[Value.ref b] below meth c H locs 178 3099 (lw_Z below #[Value.ref b] s) (F0 m 1630 ls []) := by
  obtain ⟨C0, hKx, hKm, hPx, hPm, hD, hS, hl⟩ := S0
  have C1 := C0
  obtain ⟨hx, hb, hr, hml, hown0, hts0, hX, hbl, hlocks, hgv⟩ := C0
  have hown : s.vm.findClass RL = some m.cls := hown0
  have hts := hts0
  have hbA : ¬ (fun q : Nat => s.heap.size ≤ q) b := Nat.not_le.mpr hbl
  have hA : ∀ q : Nat, s.heap.size ≤ q → (fun q : Nat => s.heap.size ≤ q) q := fun _ h => h
  have hDx := dl_left hD
  have hDm := dl_right hD
  refine lv_aload_n hx hb dL_law_1630 rfl (lv_at hl 2 rfl) ?_
  refine cr_l (va_runV (As := []) (rest := []) ⟨hx, hb, hml, hown, hts⟩ (px_digest l dC dI csx adx H hPx) (cwV 0 hts gq_X11_digest rfl rfl rfl (by decide +kernel) ⟨Nat.le_of_ble_eq_true rfl, Nat.le_of_ble_eq_true rfl⟩) ⟨pb_c, va_recv hKx hPx (ci := 11) (q0 := 0) rfl rfl, pb_m hKx⟩ rfl rfl hl.1 rfl (lv_room (Nat.le_of_ble_eq_true rfl)) dL_law_1631 ⟨Nat.le_of_ble_eq_true rfl, Nat.le_of_ble_eq_true rfl⟩) hS (fun r1 hw1 locs hS => ?_)
  refine lv_aload_n hx hb dL_law_1634 rfl (lv_at hl 1 rfl) ?_
  have hFm := fr_all hDm hS hA
  refine va_calll (va_runV (As := []) (rest := [.long r1]) ⟨hx, hb, hml, hown, hts⟩ (pm_digest l dC dI csm adm H hPm (hDm.weaken (fun _ _ _ _ => trivial))) (cwV 0 hts gq_X12_digest rfl rfl rfl (by decide +kernel) ⟨Nat.le_of_ble_eq_true rfl, Nat.le_of_ble_eq_true rfl⟩) ⟨pb_c, va_recv hKm hPm (ci := 12) (q0 := 0) rfl rfl, pb_m hKm⟩ rfl rfl hl.1 rfl (lv_room (Nat.le_of_ble_eq_true rfl)) dL_law_1635 ⟨Nat.le_of_ble_eq_true rfl, Nat.le_of_ble_eq_true rfl⟩) hS (fun q _ h => hFm q h) hFm (fun r2 u t H2 locs ht hvm hw2 hB hz1 hk1 hS => ?_)
  refine W.lcmp hx hb dL_law_1638 ?_
  refine lq_i 0 (lg_same (hw1.trans hw2.symm)) ?_
  refine lv_if_eq (tgt := 1644) hx hb dL_law_1639 (by decide) (fun _ => ?_) (fun c => absurd rfl c)
  exact le_end l C1 hS hl
