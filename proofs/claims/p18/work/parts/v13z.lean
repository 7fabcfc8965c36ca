set_option maxHeartbeats 4000000 in
set_option maxRecDepth 100000 in
theorem le_26 {p : Program} {e : Env} {s : State} {m : MethodId} {below : List Frame} {meth : Method} {c : Code} (l : Launch) {b L : Nat} {xs : Nat → Int32} {dC : Nat → ClassId} {dI : Nat → Nat → Nat} {cs : Nat → ClassId} {tt : Nat} {adx adm : Nat → Nat} {i : Int32} (F1 : lw_F p s m meth c b L xs dC dI cs tt) {mux mum : Nat → Nat → Int32} {H : Heap} {locs : List Loc} {ls : Array Slot} (J0 : lw_J s b dC dI cs adx adm i mux mum H locs ls) (hL : L ≤ 384) (hi : 0 ≤ i.toInt ∧ i.toInt + 6 ≤ L) (KE : ∀ (mux mum : Nat → Nat → Int32) (H : Heap) (locs : List Loc) (ls : Array Slot), lw_J s b dC dI cs adx adm i mux mum H locs ls → W p l e room_1 s m #[Value.ref b] below meth c H locs 178 3099 (lw_Z below #[Value.ref b] s) (F0 m 1641 ls [])) : W p l e room_1 s m #[Value.ref b] below meth c H locs 178 3099 (lw_Z below #[Value.ref b] s) (F0 m 1062 ls []) := by
  have F2 := F1
  have J1 := J0
  obtain ⟨C0, hKx, hKm, hz, hks⟩ := F1
  obtain ⟨hx, hb, hr, hml, hown0, hts0, hX, hbl, hlocks, hgv⟩ := C0
  obtain ⟨okx, okm, hsim, hPx, hPm, hD, hS, hl⟩ := J0
  have okx0 := okx
  have okm0 := okm
  have hown : s.vm.findClass RL = some m.cls := hown0
  have hts := hts0
  have hbA : ¬ (fun q : Nat => s.heap.size ≤ q) b := Nat.not_le.mpr hbl
  have hA : ∀ q : Nat, s.heap.size ≤ q → (fun q : Nat => s.heap.size ≤ q) q := fun _ h => h
  refine lv_aload_n hx hb dL_law_1062 rfl (lv_at hl 2 rfl) ?_
  refine lv_aload_n hx hb dL_law_1063 rfl (lv_at hl 3 rfl) ?_
  refine lv_iload_n hx hb dL_law_1064 rfl (lv_at hl 0 rfl) ?_
  refine lv_iconst (v := 1) hx hb dL_law_1065 (by decide) ?_
  refine lv_iadd hx hb dL_law_1066 ?_
  refine lv_topi (fun t1 et1 => ?_)
  have at1 : t1.toInt = i.toInt + 1 := by rw [et1]; exact tI_add rfl (rfl : (1 : Int32).toInt = _) (by show _ ≤ i.toInt + (1 : Int); omega) (by show i.toInt + (1 : Int) < _; omega)
  refine va_sld hx hb hX hbl hbA hS (show vp_in t1 L from vi_of (by omega) (by omega)) dL_law_1067 ?_
  refine lv_topi (fun a1 ea1 => ?_)
  refine lv_aload_n hx hb dL_law_1068 rfl (lv_at hl 3 rfl) ?_
  refine lv_iload_n hx hb dL_law_1069 rfl (lv_at hl 0 rfl) ?_
  refine lv_iconst (v := 2) hx hb dL_law_1070 (by decide) ?_
  refine lv_iadd hx hb dL_law_1071 ?_
  refine lv_topi (fun t2 et2 => ?_)
  have at2 : t2.toInt = i.toInt + 2 := by rw [et2]; exact tI_add rfl (rfl : (2 : Int32).toInt = _) (by show _ ≤ i.toInt + (2 : Int); omega) (by show i.toInt + (2 : Int) < _; omega)
  refine va_sld hx hb hX hbl hbA hS (show vp_in t2 L from vi_of (by omega) (by omega)) dL_law_1072 ?_
  refine lv_topi (fun a2 ea2 => ?_)
  have hDx := dl_left hD
  have hDm := dl_right hD
  have hFx := fr_all hDx hS hA
  refine va_calli (va_runV (As := [.int a1, .int a2]) (rest := []) ⟨hx, hb, hml, hown, hts⟩ (qx_soonest l dC dI cs adx mux okx H hPx (hDx.weaken (fun _ _ _ _ => trivial)) a1 a2) (cwV 2 hts (wL_V mw_4_60 mw_4_57 mw_4_58 mw_4_59 mw_1_1) rfl rfl rfl (by decide +kernel) ⟨Nat.le_of_ble_eq_true rfl, Nat.le_of_ble_eq_true rfl⟩) ⟨sz_c, va_recv hKx hPx (ci := 11) (q0 := 0) rfl (gX_0 cs adx mux), sz_m hKx hz⟩ rfl rfl hl.1 rfl (lv_room (Nat.le_of_ble_eq_true rfl)) dL_law_1073 ⟨Nat.le_of_ble_eq_true rfl, Nat.le_of_ble_eq_true rfl⟩) hS (fun q _ h => hFx q h) hFx (fun r1 xi1 t H1 locs ht hvm hw1 hB hz1 hk1 hS => ?_)
  obtain ⟨okx, hw1, hkp1⟩ := hw1
  have hPx : va_P (dC, dI) vwCl (wR 157 adx (EX cs adx) xi1) H1 := by rw [← ht]; exact hB
  have hPm := kp_rest hD hPm hk1
  have hD : va_D (fun q : Nat => s.heap.size ≤ q) ((wR 157 adx (EX cs adx) xi1) ++ (wR 21 adm (EM cs adm) mum)) := wR_DD _ _ hD
  refine lv_pop hx hb dL_law_1076 rfl ?_
  refine lv_aload_n hx hb dL_law_1077 rfl (lv_at hl 1 rfl) ?_
  refine lv_aload_n hx hb dL_law_1078 rfl (lv_at hl 3 rfl) ?_
  refine lv_iload_n hx hb dL_law_1079 rfl (lv_at hl 0 rfl) ?_
  refine lv_iconst (v := 1) hx hb dL_law_1080 (by decide) ?_
  refine lv_iadd hx hb dL_law_1081 ?_
  refine lq_i t1 et1.symm ?_
  refine va_sld hx hb hX hbl hbA hS (show vp_in t1 L from vi_of (by omega) (by omega)) dL_law_1082 ?_
  refine lq_i a1 ea1.symm ?_
  refine lv_aload_n hx hb dL_law_1083 rfl (lv_at hl 3 rfl) ?_
  refine lv_iload_n hx hb dL_law_1084 rfl (lv_at hl 0 rfl) ?_
  refine lv_iconst (v := 2) hx hb dL_law_1085 (by decide) ?_
  refine lv_iadd hx hb dL_law_1086 ?_
  refine lq_i t2 et2.symm ?_
  refine va_sld hx hb hX hbl hbA hS (show vp_in t2 L from vi_of (by omega) (by omega)) dL_law_1087 ?_
  refine lq_i a2 ea2.symm ?_
  have hDx := dl_left hD
  have hDm := dl_right hD
  have hFm := fr_all hDm hS hA
  refine va_calli (va_runV (As := [.int a1, .int a2]) (rest := []) ⟨hx, hb, hml, hown, hts⟩ (qm_soonest l dC dI cs adm mum okm H1 hPm (hDm.weaken (fun _ _ _ _ => trivial)) a1 a2) (cwV 2 hts (wL_V mw_6_200 mw_6_197 mw_6_198 mw_6_199 mw_1_13) rfl rfl rfl (by decide +kernel) ⟨Nat.le_of_ble_eq_true rfl, Nat.le_of_ble_eq_true rfl⟩) ⟨sz_c, va_recv hKm hPm (ci := 12) (q0 := 0) rfl (gM_0 cs adm mum), sz_m hKm hz⟩ rfl rfl hl.1 rfl (lv_room (Nat.le_of_ble_eq_true rfl)) dL_law_1088 ⟨Nat.le_of_ble_eq_true rfl, Nat.le_of_ble_eq_true rfl⟩) hS (fun q _ h => hFm q h) hFm (fun r2 xi2 t H2 locs ht hvm hw2 hB hz1 hk1 hS => ?_)
  obtain ⟨okm, hw2, hkp2⟩ := hw2
  have hPm : va_P (dC, dI) vwCl (wR 21 adm (EM cs adm) xi2) H2 := by rw [← ht]; exact hB
  have hPx := kp_rest (pm_D List.perm_append_comm hD) hPx hk1
  have hD : va_D (fun q : Nat => s.heap.size ≤ q) ((wR 157 adx (EX cs adx) xi1) ++ (wR 21 adm (EM cs adm) xi2)) := wR_DD _ _ hD
  refine lv_pop hx hb dL_law_1091 rfl ?_
  refine lv_goto (tgt := 1641) hx hb dL_law_1092 (by decide) ?_
  exact KE xi1 xi2 _ _ _ ⟨okx, okm, ⟨simT_keep (by decide) (by decide) hkp1 hkp2 hsim.1, core_keep okm0 (by decide) (by decide) hkp1 hkp2 hsim.2⟩, hPx, hPm, hD, hS, hl⟩
set_option maxHeartbeats 4000000 in
set_option maxRecDepth 100000 in
theorem le_27 {p : Program} {e : Env} {s : State} {m : MethodId} {below : List Frame} {meth : Method} {c : Code} (l : Launch) {b L : Nat} {xs : Nat → Int32} {dC : Nat → ClassId} {dI : Nat → Nat → Nat} {cs : Nat → ClassId} {tt : Nat} {adx adm : Nat → Nat} {i : Int32} (F1 : lw_F p s m meth c b L xs dC dI cs tt) {mux mum : Nat → Nat → Int32} {H : Heap} {locs : List Loc} {ls : Array Slot} (J0 : lw_J s b dC dI cs adx adm i mux mum H locs ls) (hL : L ≤ 384) (hi : 0 ≤ i.toInt ∧ i.toInt + 6 ≤ L) (KE : ∀ (mux mum : Nat → Nat → Int32) (H : Heap) (locs : List Loc) (ls : Array Slot), lw_J s b dC dI cs adx adm i mux mum H locs ls → W p l e room_1 s m #[Value.ref b] below meth c H locs 178 3099 (lw_Z below #[Value.ref b] s) (F0 m 1641 ls [])) : W p l e room_1 s m #[Value.ref b] below meth c H locs 178 3099 (lw_Z below #[Value.ref b] s) (F0 m 1095 ls []) := by
  have F2 := F1
  have J1 := J0
  obtain ⟨C0, hKx, hKm, hz, hks⟩ := F1
  obtain ⟨hx, hb, hr, hml, hown0, hts0, hX, hbl, hlocks, hgv⟩ := C0
  obtain ⟨okx, okm, hsim, hPx, hPm, hD, hS, hl⟩ := J0
  have okx0 := okx
  have okm0 := okm
  have hown : s.vm.findClass RL = some m.cls := hown0
  have hts := hts0
  have hbA : ¬ (fun q : Nat => s.heap.size ≤ q) b := Nat.not_le.mpr hbl
  have hA : ∀ q : Nat, s.heap.size ≤ q → (fun q : Nat => s.heap.size ≤ q) q := fun _ h => h
  refine lv_aload_n hx hb dL_law_1095 rfl (lv_at hl 2 rfl) ?_
  refine lv_aload_n hx hb dL_law_1096 rfl (lv_at hl 3 rfl) ?_
  refine lv_iload_n hx hb dL_law_1097 rfl (lv_at hl 0 rfl) ?_
  refine lv_iconst (v := 1) hx hb dL_law_1098 (by decide) ?_
  refine lv_iadd hx hb dL_law_1099 ?_
  refine lv_topi (fun t1 et1 => ?_)
  have at1 : t1.toInt = i.toInt + 1 := by rw [et1]; exact tI_add rfl (rfl : (1 : Int32).toInt = _) (by show _ ≤ i.toInt + (1 : Int); omega) (by show i.toInt + (1 : Int) < _; omega)
  refine va_sld hx hb hX hbl hbA hS (show vp_in t1 L from vi_of (by omega) (by omega)) dL_law_1100 ?_
  refine lv_topi (fun a1 ea1 => ?_)
  have hDx := dl_left hD
  have hDm := dl_right hD
  have hFx := fr_all hDx hS hA
  refine va_calli (va_runV (As := [.int a1]) (rest := []) ⟨hx, hb, hml, hown, hts⟩ (qx_comes l dC dI cs adx mux okx H hPx (hDx.weaken (fun _ _ _ _ => trivial)) a1) (cwV 1 hts (wL_V mw_4_64 mw_4_61 mw_4_62 mw_4_63 mw_1_1) rfl rfl rfl (by decide +kernel) ⟨Nat.le_of_ble_eq_true rfl, Nat.le_of_ble_eq_true rfl⟩) ⟨sz_c, va_recv hKx hPx (ci := 11) (q0 := 0) rfl (gX_0 cs adx mux), sz_m hKx hz⟩ rfl rfl hl.1 rfl (lv_room (Nat.le_of_ble_eq_true rfl)) dL_law_1101 ⟨Nat.le_of_ble_eq_true rfl, Nat.le_of_ble_eq_true rfl⟩) hS (fun q _ h => hFx q h) hFx (fun r1 xi1 t H1 locs ht hvm hw1 hB hz1 hk1 hS => ?_)
  obtain ⟨okx, hw1, hkp1⟩ := hw1
  have hPx : va_P (dC, dI) vwCl (wR 157 adx (EX cs adx) xi1) H1 := by rw [← ht]; exact hB
  have hPm := kp_rest hD hPm hk1
  have hD : va_D (fun q : Nat => s.heap.size ≤ q) ((wR 157 adx (EX cs adx) xi1) ++ (wR 21 adm (EM cs adm) mum)) := wR_DD _ _ hD
  refine lv_pop hx hb dL_law_1104 rfl ?_
  refine lv_aload_n hx hb dL_law_1105 rfl (lv_at hl 1 rfl) ?_
  refine lv_aload_n hx hb dL_law_1106 rfl (lv_at hl 3 rfl) ?_
  refine lv_iload_n hx hb dL_law_1107 rfl (lv_at hl 0 rfl) ?_
  refine lv_iconst (v := 1) hx hb dL_law_1108 (by decide) ?_
  refine lv_iadd hx hb dL_law_1109 ?_
  refine lq_i t1 et1.symm ?_
  refine va_sld hx hb hX hbl hbA hS (show vp_in t1 L from vi_of (by omega) (by omega)) dL_law_1110 ?_
  refine lq_i a1 ea1.symm ?_
  have hDx := dl_left hD
  have hDm := dl_right hD
  have hFm := fr_all hDm hS hA
  refine va_calli (va_runV (As := [.int a1]) (rest := []) ⟨hx, hb, hml, hown, hts⟩ (qm_comes l dC dI cs adm mum okm H1 hPm (hDm.weaken (fun _ _ _ _ => trivial)) a1) (cwV 1 hts (wL_V mw_6_204 mw_6_201 mw_6_202 mw_6_203 mw_1_13) rfl rfl rfl (by decide +kernel) ⟨Nat.le_of_ble_eq_true rfl, Nat.le_of_ble_eq_true rfl⟩) ⟨sz_c, va_recv hKm hPm (ci := 12) (q0 := 0) rfl (gM_0 cs adm mum), sz_m hKm hz⟩ rfl rfl hl.1 rfl (lv_room (Nat.le_of_ble_eq_true rfl)) dL_law_1111 ⟨Nat.le_of_ble_eq_true rfl, Nat.le_of_ble_eq_true rfl⟩) hS (fun q _ h => hFm q h) hFm (fun r2 xi2 t H2 locs ht hvm hw2 hB hz1 hk1 hS => ?_)
  obtain ⟨okm, hw2, hkp2⟩ := hw2
  have hPm : va_P (dC, dI) vwCl (wR 21 adm (EM cs adm) xi2) H2 := by rw [← ht]; exact hB
  have hPx := kp_rest (pm_D List.perm_append_comm hD) hPx hk1
  have hD : va_D (fun q : Nat => s.heap.size ≤ q) ((wR 157 adx (EX cs adx) xi1) ++ (wR 21 adm (EM cs adm) xi2)) := wR_DD _ _ hD
  refine lv_pop hx hb dL_law_1114 rfl ?_
  refine lv_goto (tgt := 1641) hx hb dL_law_1115 (by decide) ?_
  exact KE xi1 xi2 _ _ _ ⟨okx, okm, ⟨simT_keep (by decide) (by decide) hkp1 hkp2 hsim.1, core_keep okm0 (by decide) (by decide) hkp1 hkp2 hsim.2⟩, hPx, hPm, hD, hS, hl⟩
set_option maxHeartbeats 4000000 in
set_option maxRecDepth 100000 in
theorem le_28 {p : Program} {e : Env} {s : State} {m : MethodId} {below : List Frame} {meth : Method} {c : Code} (l : Launch) {b L : Nat} {xs : Nat → Int32} {dC : Nat → ClassId} {dI : Nat → Nat → Nat} {cs : Nat → ClassId} {tt : Nat} {adx adm : Nat → Nat} {i : Int32} (F1 : lw_F p s m meth c b L xs dC dI cs tt) {mux mum : Nat → Nat → Int32} {H : Heap} {locs : List Loc} {ls : Array Slot} (J0 : lw_J s b dC dI cs adx adm i mux mum H locs ls) (hL : L ≤ 384) (hi : 0 ≤ i.toInt ∧ i.toInt + 6 ≤ L) (KE : ∀ (mux mum : Nat → Nat → Int32) (H : Heap) (locs : List Loc) (ls : Array Slot), lw_J s b dC dI cs adx adm i mux mum H locs ls → W p l e room_1 s m #[Value.ref b] below meth c H locs 178 3099 (lw_Z below #[Value.ref b] s) (F0 m 1641 ls [])) : W p l e room_1 s m #[Value.ref b] below meth c H locs 178 3099 (lw_Z below #[Value.ref b] s) (F0 m 1118 ls []) := by
  have F2 := F1
  have J1 := J0
  obtain ⟨C0, hKx, hKm, hz, hks⟩ := F1
  obtain ⟨hx, hb, hr, hml, hown0, hts0, hX, hbl, hlocks, hgv⟩ := C0
  obtain ⟨okx, okm, hsim, hPx, hPm, hD, hS, hl⟩ := J0
  have okx0 := okx
  have okm0 := okm
  have hown : s.vm.findClass RL = some m.cls := hown0
  have hts := hts0
  have hbA : ¬ (fun q : Nat => s.heap.size ≤ q) b := Nat.not_le.mpr hbl
  have hA : ∀ q : Nat, s.heap.size ≤ q → (fun q : Nat => s.heap.size ≤ q) q := fun _ h => h
  refine lv_aload_n hx hb dL_law_1118 rfl (lv_at hl 2 rfl) ?_
  refine lv_aload_n hx hb dL_law_1119 rfl (lv_at hl 3 rfl) ?_
  refine lv_iload_n hx hb dL_law_1120 rfl (lv_at hl 0 rfl) ?_
  refine lv_iconst (v := 1) hx hb dL_law_1121 (by decide) ?_
  refine lv_iadd hx hb dL_law_1122 ?_
  refine lv_topi (fun t1 et1 => ?_)
  have at1 : t1.toInt = i.toInt + 1 := by rw [et1]; exact tI_add rfl (rfl : (1 : Int32).toInt = _) (by show _ ≤ i.toInt + (1 : Int); omega) (by show i.toInt + (1 : Int) < _; omega)
  refine va_sld hx hb hX hbl hbA hS (show vp_in t1 L from vi_of (by omega) (by omega)) dL_law_1123 ?_
  refine lv_topi (fun a1 ea1 => ?_)
  have hDx := dl_left hD
  have hDm := dl_right hD
  have hFx := fr_all hDx hS hA
  refine va_calli (va_runV (As := [.int a1]) (rest := []) ⟨hx, hb, hml, hown, hts⟩ (qx_bars l dC dI cs adx mux okx H hPx (hDx.weaken (fun _ _ _ _ => trivial)) a1) (cwV 1 hts (wL_V mw_4_68 mw_4_65 mw_4_66 mw_4_67 mw_1_1) rfl rfl rfl (by decide +kernel) ⟨Nat.le_of_ble_eq_true rfl, Nat.le_of_ble_eq_true rfl⟩) ⟨sz_c, va_recv hKx hPx (ci := 11) (q0 := 0) rfl (gX_0 cs adx mux), sz_m hKx hz⟩ rfl rfl hl.1 rfl (lv_room (Nat.le_of_ble_eq_true rfl)) dL_law_1124 ⟨Nat.le_of_ble_eq_true rfl, Nat.le_of_ble_eq_true rfl⟩) hS (fun q _ h => hFx q h) hFx (fun r1 xi1 t H1 locs ht hvm hw1 hB hz1 hk1 hS => ?_)
  obtain ⟨okx, hw1, hkp1⟩ := hw1
  have hPx : va_P (dC, dI) vwCl (wR 157 adx (EX cs adx) xi1) H1 := by rw [← ht]; exact hB
  have hPm := kp_rest hD hPm hk1
  have hD : va_D (fun q : Nat => s.heap.size ≤ q) ((wR 157 adx (EX cs adx) xi1) ++ (wR 21 adm (EM cs adm) mum)) := wR_DD _ _ hD
  refine lv_pop hx hb dL_law_1127 rfl ?_
  refine lv_aload_n hx hb dL_law_1128 rfl (lv_at hl 1 rfl) ?_
  refine lv_aload_n hx hb dL_law_1129 rfl (lv_at hl 3 rfl) ?_
  refine lv_iload_n hx hb dL_law_1130 rfl (lv_at hl 0 rfl) ?_
  refine lv_iconst (v := 1) hx hb dL_law_1131 (by decide) ?_
  refine lv_iadd hx hb dL_law_1132 ?_
  refine lq_i t1 et1.symm ?_
  refine va_sld hx hb hX hbl hbA hS (show vp_in t1 L from vi_of (by omega) (by omega)) dL_law_1133 ?_
  refine lq_i a1 ea1.symm ?_
  have hDx := dl_left hD
  have hDm := dl_right hD
  have hFm := fr_all hDm hS hA
  refine va_calli (va_runV (As := [.int a1]) (rest := []) ⟨hx, hb, hml, hown, hts⟩ (qm_bars l dC dI cs adm mum okm H1 hPm (hDm.weaken (fun _ _ _ _ => trivial)) a1) (cwV 1 hts (wL_V mw_6_208 mw_6_205 mw_6_206 mw_6_207 mw_1_13) rfl rfl rfl (by decide +kernel) ⟨Nat.le_of_ble_eq_true rfl, Nat.le_of_ble_eq_true rfl⟩) ⟨sz_c, va_recv hKm hPm (ci := 12) (q0 := 0) rfl (gM_0 cs adm mum), sz_m hKm hz⟩ rfl rfl hl.1 rfl (lv_room (Nat.le_of_ble_eq_true rfl)) dL_law_1134 ⟨Nat.le_of_ble_eq_true rfl, Nat.le_of_ble_eq_true rfl⟩) hS (fun q _ h => hFm q h) hFm (fun r2 xi2 t H2 locs ht hvm hw2 hB hz1 hk1 hS => ?_)
  obtain ⟨okm, hw2, hkp2⟩ := hw2
  have hPm : va_P (dC, dI) vwCl (wR 21 adm (EM cs adm) xi2) H2 := by rw [← ht]; exact hB
  have hPx := kp_rest (pm_D List.perm_append_comm hD) hPx hk1
  have hD : va_D (fun q : Nat => s.heap.size ≤ q) ((wR 157 adx (EX cs adx) xi1) ++ (wR 21 adm (EM cs adm) xi2)) := wR_DD _ _ hD
  refine lv_pop hx hb dL_law_1137 rfl ?_
  refine lv_goto (tgt := 1641) hx hb dL_law_1138 (by decide) ?_
  exact KE xi1 xi2 _ _ _ ⟨okx, okm, ⟨simT_keep (by decide) (by decide) hkp1 hkp2 hsim.1, core_keep okm0 (by decide) (by decide) hkp1 hkp2 hsim.2⟩, hPx, hPm, hD, hS, hl⟩
set_option maxHeartbeats 4000000 in
set_option maxRecDepth 100000 in
theorem le_29 {p : Program} {e : Env} {s : State} {m : MethodId} {below : List Frame} {meth : Method} {c : Code} (l : Launch) {b L : Nat} {xs : Nat → Int32} {dC : Nat → ClassId} {dI : Nat → Nat → Nat} {cs : Nat → ClassId} {tt : Nat} {adx adm : Nat → Nat} {i : Int32} (F1 : lw_F p s m meth c b L xs dC dI cs tt) {mux mum : Nat → Nat → Int32} {H : Heap} {locs : List Loc} {ls : Array Slot} (J0 : lw_J s b dC dI cs adx adm i mux mum H locs ls) (hL : L ≤ 384) (hi : 0 ≤ i.toInt ∧ i.toInt + 6 ≤ L) (KE : ∀ (mux mum : Nat → Nat → Int32) (H : Heap) (locs : List Loc) (ls : Array Slot), lw_J s b dC dI cs adx adm i mux mum H locs ls → W p l e room_1 s m #[Value.ref b] below meth c H locs 178 3099 (lw_Z below #[Value.ref b] s) (F0 m 1641 ls [])) : W p l e room_1 s m #[Value.ref b] below meth c H locs 178 3099 (lw_Z below #[Value.ref b] s) (F0 m 1141 ls []) := by
  have F2 := F1
  have J1 := J0
  obtain ⟨C0, hKx, hKm, hz, hks⟩ := F1
  obtain ⟨hx, hb, hr, hml, hown0, hts0, hX, hbl, hlocks, hgv⟩ := C0
  obtain ⟨okx, okm, hsim, hPx, hPm, hD, hS, hl⟩ := J0
  have okx0 := okx
  have okm0 := okm
  have hown : s.vm.findClass RL = some m.cls := hown0
  have hts := hts0
  have hbA : ¬ (fun q : Nat => s.heap.size ≤ q) b := Nat.not_le.mpr hbl
  have hA : ∀ q : Nat, s.heap.size ≤ q → (fun q : Nat => s.heap.size ≤ q) q := fun _ h => h
  refine lv_aload_n hx hb dL_law_1141 rfl (lv_at hl 2 rfl) ?_
  refine lv_aload_n hx hb dL_law_1142 rfl (lv_at hl 3 rfl) ?_
  refine lv_iload_n hx hb dL_law_1143 rfl (lv_at hl 0 rfl) ?_
  refine lv_iconst (v := 1) hx hb dL_law_1144 (by decide) ?_
  refine lv_iadd hx hb dL_law_1145 ?_
  refine lv_topi (fun t1 et1 => ?_)
  have at1 : t1.toInt = i.toInt + 1 := by rw [et1]; exact tI_add rfl (rfl : (1 : Int32).toInt = _) (by show _ ≤ i.toInt + (1 : Int); omega) (by show i.toInt + (1 : Int) < _; omega)
  refine va_sld hx hb hX hbl hbA hS (show vp_in t1 L from vi_of (by omega) (by omega)) dL_law_1146 ?_
  refine lv_topi (fun a1 ea1 => ?_)
  have hDx := dl_left hD
  have hDm := dl_right hD
  have hFx := fr_all hDx hS hA
  refine va_calli (va_runV (As := [.int a1]) (rest := []) ⟨hx, hb, hml, hown, hts⟩ (qx_why l dC dI cs adx mux okx H hPx (hDx.weaken (fun _ _ _ _ => trivial)) a1) (cwV 1 hts (wL_V mw_4_72 mw_4_69 mw_4_70 mw_4_71 mw_1_1) rfl rfl rfl (by decide +kernel) ⟨Nat.le_of_ble_eq_true rfl, Nat.le_of_ble_eq_true rfl⟩) ⟨sz_c, va_recv hKx hPx (ci := 11) (q0 := 0) rfl (gX_0 cs adx mux), sz_m hKx hz⟩ rfl rfl hl.1 rfl (lv_room (Nat.le_of_ble_eq_true rfl)) dL_law_1147 ⟨Nat.le_of_ble_eq_true rfl, Nat.le_of_ble_eq_true rfl⟩) hS (fun q _ h => hFx q h) hFx (fun r1 xi1 t H1 locs ht hvm hw1 hB hz1 hk1 hS => ?_)
  obtain ⟨okx, hw1, hkp1⟩ := hw1
  have hPx : va_P (dC, dI) vwCl (wR 157 adx (EX cs adx) xi1) H1 := by rw [← ht]; exact hB
  have hPm := kp_rest hD hPm hk1
  have hD : va_D (fun q : Nat => s.heap.size ≤ q) ((wR 157 adx (EX cs adx) xi1) ++ (wR 21 adm (EM cs adm) mum)) := wR_DD _ _ hD
  refine lv_pop hx hb dL_law_1150 rfl ?_
  refine lv_aload_n hx hb dL_law_1151 rfl (lv_at hl 1 rfl) ?_
  refine lv_aload_n hx hb dL_law_1152 rfl (lv_at hl 3 rfl) ?_
  refine lv_iload_n hx hb dL_law_1153 rfl (lv_at hl 0 rfl) ?_
  refine lv_iconst (v := 1) hx hb dL_law_1154 (by decide) ?_
  refine lv_iadd hx hb dL_law_1155 ?_
  refine lq_i t1 et1.symm ?_
  refine va_sld hx hb hX hbl hbA hS (show vp_in t1 L from vi_of (by omega) (by omega)) dL_law_1156 ?_
  refine lq_i a1 ea1.symm ?_
  have hDx := dl_left hD
  have hDm := dl_right hD
  have hFm := fr_all hDm hS hA
  refine va_calli (va_runV (As := [.int a1]) (rest := []) ⟨hx, hb, hml, hown, hts⟩ (qm_why l dC dI cs adm mum okm H1 hPm (hDm.weaken (fun _ _ _ _ => trivial)) a1) (cwV 1 hts (wL_V mw_6_212 mw_6_209 mw_6_210 mw_6_211 mw_1_13) rfl rfl rfl (by decide +kernel) ⟨Nat.le_of_ble_eq_true rfl, Nat.le_of_ble_eq_true rfl⟩) ⟨sz_c, va_recv hKm hPm (ci := 12) (q0 := 0) rfl (gM_0 cs adm mum), sz_m hKm hz⟩ rfl rfl hl.1 rfl (lv_room (Nat.le_of_ble_eq_true rfl)) dL_law_1157 ⟨Nat.le_of_ble_eq_true rfl, Nat.le_of_ble_eq_true rfl⟩) hS (fun q _ h => hFm q h) hFm (fun r2 xi2 t H2 locs ht hvm hw2 hB hz1 hk1 hS => ?_)
  obtain ⟨okm, hw2, hkp2⟩ := hw2
  have hPm : va_P (dC, dI) vwCl (wR 21 adm (EM cs adm) xi2) H2 := by rw [← ht]; exact hB
  have hPx := kp_rest (pm_D List.perm_append_comm hD) hPx hk1
  have hD : va_D (fun q : Nat => s.heap.size ≤ q) ((wR 157 adx (EX cs adx) xi1) ++ (wR 21 adm (EM cs adm) xi2)) := wR_DD _ _ hD
  refine lv_pop hx hb dL_law_1160 rfl ?_
  refine lv_goto (tgt := 1641) hx hb dL_law_1161 (by decide) ?_
  exact KE xi1 xi2 _ _ _ ⟨okx, okm, ⟨simT_keep (by decide) (by decide) hkp1 hkp2 hsim.1, core_keep okm0 (by decide) (by decide) hkp1 hkp2 hsim.2⟩, hPx, hPm, hD, hS, hl⟩
set_option maxHeartbeats 4000000 in
set_option maxRecDepth 100000 in
theorem le_30 {p : Program} {e : Env} {s : State} {m : MethodId} {below : List Frame} {meth : Method} {c : Code} (l : Launch) {b L : Nat} {xs : Nat → Int32} {dC : Nat → ClassId} {dI : Nat → Nat → Nat} {cs : Nat → ClassId} {tt : Nat} {adx adm : Nat → Nat} {i : Int32} (F1 : lw_F p s m meth c b L xs dC dI cs tt) {mux mum : Nat → Nat → Int32} {H : Heap} {locs : List Loc} {ls : Array Slot} (J0 : lw_J s b dC dI cs adx adm i mux mum H locs ls) (hL : L ≤ 384) (hi : 0 ≤ i.toInt ∧ i.toInt + 6 ≤ L) (KE : ∀ (mux mum : Nat → Nat → Int32) (H : Heap) (locs : List Loc) (ls : Array Slot), lw_J s b dC dI cs adx adm i mux mum H locs ls → W p l e room_1 s m #[Value.ref b] below meth c H locs 178 3099 (lw_Z below #[Value.ref b] s) (F0 m 1641 ls [])) : W p l e room_1 s m #[Value.ref b] below meth c H locs 178 3099 (lw_Z below #[Value.ref b] s) (F0 m 1164 ls []) := by
  have F2 := F1
  have J1 := J0
  obtain ⟨C0, hKx, hKm, hz, hks⟩ := F1
  obtain ⟨hx, hb, hr, hml, hown0, hts0, hX, hbl, hlocks, hgv⟩ := C0
  obtain ⟨okx, okm, hsim, hPx, hPm, hD, hS, hl⟩ := J0
  have okx0 := okx
  have okm0 := okm
  have hown : s.vm.findClass RL = some m.cls := hown0
  have hts := hts0
  have hbA : ¬ (fun q : Nat => s.heap.size ≤ q) b := Nat.not_le.mpr hbl
  have hA : ∀ q : Nat, s.heap.size ≤ q → (fun q : Nat => s.heap.size ≤ q) q := fun _ h => h
  refine lv_aload_n hx hb dL_law_1164 rfl (lv_at hl 2 rfl) ?_
  refine lv_aload_n hx hb dL_law_1165 rfl (lv_at hl 3 rfl) ?_
  refine lv_iload_n hx hb dL_law_1166 rfl (lv_at hl 0 rfl) ?_
  refine lv_iconst (v := 1) hx hb dL_law_1167 (by decide) ?_
  refine lv_iadd hx hb dL_law_1168 ?_
  refine lv_topi (fun t1 et1 => ?_)
  have at1 : t1.toInt = i.toInt + 1 := by rw [et1]; exact tI_add rfl (rfl : (1 : Int32).toInt = _) (by show _ ≤ i.toInt + (1 : Int); omega) (by show i.toInt + (1 : Int) < _; omega)
  refine va_sld hx hb hX hbl hbA hS (show vp_in t1 L from vi_of (by omega) (by omega)) dL_law_1169 ?_
  refine lv_topi (fun a1 ea1 => ?_)
  have hDx := dl_left hD
  have hDm := dl_right hD
  have hFx := fr_all hDx hS hA
  refine va_calli (va_runV (As := [.int a1]) (rest := []) ⟨hx, hb, hml, hown, hts⟩ (qx_needs l dC dI cs adx mux okx H hPx (hDx.weaken (fun _ _ _ _ => trivial)) a1) (cwV 1 hts (wL_V mw_4_80 mw_4_77 mw_4_78 mw_4_79 mw_1_1) rfl rfl rfl (by decide +kernel) ⟨Nat.le_of_ble_eq_true rfl, Nat.le_of_ble_eq_true rfl⟩) ⟨sz_c, va_recv hKx hPx (ci := 11) (q0 := 0) rfl (gX_0 cs adx mux), sz_m hKx hz⟩ rfl rfl hl.1 rfl (lv_room (Nat.le_of_ble_eq_true rfl)) dL_law_1170 ⟨Nat.le_of_ble_eq_true rfl, Nat.le_of_ble_eq_true rfl⟩) hS (fun q _ h => hFx q h) hFx (fun r1 xi1 t H1 locs ht hvm hw1 hB hz1 hk1 hS => ?_)
  obtain ⟨okx, hw1, hkp1⟩ := hw1
  have hPx : va_P (dC, dI) vwCl (wR 157 adx (EX cs adx) xi1) H1 := by rw [← ht]; exact hB
  have hPm := kp_rest hD hPm hk1
  have hD : va_D (fun q : Nat => s.heap.size ≤ q) ((wR 157 adx (EX cs adx) xi1) ++ (wR 21 adm (EM cs adm) mum)) := wR_DD _ _ hD
  refine lv_pop hx hb dL_law_1173 rfl ?_
  refine lv_aload_n hx hb dL_law_1174 rfl (lv_at hl 1 rfl) ?_
  refine lv_aload_n hx hb dL_law_1175 rfl (lv_at hl 3 rfl) ?_
  refine lv_iload_n hx hb dL_law_1176 rfl (lv_at hl 0 rfl) ?_
  refine lv_iconst (v := 1) hx hb dL_law_1177 (by decide) ?_
  refine lv_iadd hx hb dL_law_1178 ?_
  refine lq_i t1 et1.symm ?_
  refine va_sld hx hb hX hbl hbA hS (show vp_in t1 L from vi_of (by omega) (by omega)) dL_law_1179 ?_
  refine lq_i a1 ea1.symm ?_
  have hDx := dl_left hD
  have hDm := dl_right hD
  have hFm := fr_all hDm hS hA
  refine va_calli (va_runV (As := [.int a1]) (rest := []) ⟨hx, hb, hml, hown, hts⟩ (qm_needs l dC dI cs adm mum okm H1 hPm (hDm.weaken (fun _ _ _ _ => trivial)) a1) (cwV 1 hts (wL_V mw_6_216 mw_6_213 mw_6_214 mw_6_215 mw_1_13) rfl rfl rfl (by decide +kernel) ⟨Nat.le_of_ble_eq_true rfl, Nat.le_of_ble_eq_true rfl⟩) ⟨sz_c, va_recv hKm hPm (ci := 12) (q0 := 0) rfl (gM_0 cs adm mum), sz_m hKm hz⟩ rfl rfl hl.1 rfl (lv_room (Nat.le_of_ble_eq_true rfl)) dL_law_1180 ⟨Nat.le_of_ble_eq_true rfl, Nat.le_of_ble_eq_true rfl⟩) hS (fun q _ h => hFm q h) hFm (fun r2 xi2 t H2 locs ht hvm hw2 hB hz1 hk1 hS => ?_)
  obtain ⟨okm, hw2, hkp2⟩ := hw2
  have hPm : va_P (dC, dI) vwCl (wR 21 adm (EM cs adm) xi2) H2 := by rw [← ht]; exact hB
  have hPx := kp_rest (pm_D List.perm_append_comm hD) hPx hk1
  have hD : va_D (fun q : Nat => s.heap.size ≤ q) ((wR 157 adx (EX cs adx) xi1) ++ (wR 21 adm (EM cs adm) xi2)) := wR_DD _ _ hD
  refine lv_pop hx hb dL_law_1183 rfl ?_
  refine lv_goto (tgt := 1641) hx hb dL_law_1184 (by decide) ?_
  exact KE xi1 xi2 _ _ _ ⟨okx, okm, ⟨simT_keep (by decide) (by decide) hkp1 hkp2 hsim.1, core_keep okm0 (by decide) (by decide) hkp1 hkp2 hsim.2⟩, hPx, hPm, hD, hS, hl⟩
set_option maxHeartbeats 4000000 in
set_option maxRecDepth 100000 in
theorem le_31 {p : Program} {e : Env} {s : State} {m : MethodId} {below : List Frame} {meth : Method} {c : Code} (l : Launch) {b L : Nat} {xs : Nat → Int32} {dC : Nat → ClassId} {dI : Nat → Nat → Nat} {cs : Nat → ClassId} {tt : Nat} {adx adm : Nat → Nat} {i : Int32} (F1 : lw_F p s m meth c b L xs dC dI cs tt) {mux mum : Nat → Nat → Int32} {H : Heap} {locs : List Loc} {ls : Array Slot} (J0 : lw_J s b dC dI cs adx adm i mux mum H locs ls) (hL : L ≤ 384) (hi : 0 ≤ i.toInt ∧ i.toInt + 6 ≤ L) (KE : ∀ (mux mum : Nat → Nat → Int32) (H : Heap) (locs : List Loc) (ls : Array Slot), lw_J s b dC dI cs adx adm i mux mum H locs ls → W p l e room_1 s m #[Value.ref b] below meth c H locs 178 3099 (lw_Z below #[Value.ref b] s) (F0 m 1641 ls [])) : W p l e room_1 s m #[Value.ref b] below meth c H locs 178 3099 (lw_Z below #[Value.ref b] s) (F0 m 1187 ls []) := by
  have F2 := F1
  have J1 := J0
  obtain ⟨C0, hKx, hKm, hz, hks⟩ := F1
  obtain ⟨hx, hb, hr, hml, hown0, hts0, hX, hbl, hlocks, hgv⟩ := C0
  obtain ⟨okx, okm, hsim, hPx, hPm, hD, hS, hl⟩ := J0
  have okx0 := okx
  have okm0 := okm
  have hown : s.vm.findClass RL = some m.cls := hown0
  have hts := hts0
  have hbA : ¬ (fun q : Nat => s.heap.size ≤ q) b := Nat.not_le.mpr hbl
  have hA : ∀ q : Nat, s.heap.size ≤ q → (fun q : Nat => s.heap.size ≤ q) q := fun _ h => h
  refine lv_aload_n hx hb dL_law_1187 rfl (lv_at hl 2 rfl) ?_
  refine lv_aload_n hx hb dL_law_1188 rfl (lv_at hl 3 rfl) ?_
  refine lv_iload_n hx hb dL_law_1189 rfl (lv_at hl 0 rfl) ?_
  refine lv_iconst (v := 1) hx hb dL_law_1190 (by decide) ?_
  refine lv_iadd hx hb dL_law_1191 ?_
  refine lv_topi (fun t1 et1 => ?_)
  have at1 : t1.toInt = i.toInt + 1 := by rw [et1]; exact tI_add rfl (rfl : (1 : Int32).toInt = _) (by show _ ≤ i.toInt + (1 : Int); omega) (by show i.toInt + (1 : Int) < _; omega)
  refine va_sld hx hb hX hbl hbA hS (show vp_in t1 L from vi_of (by omega) (by omega)) dL_law_1192 ?_
  refine lv_topi (fun a1 ea1 => ?_)
  have hDx := dl_left hD
  have hDm := dl_right hD
  have hFx := fr_all hDx hS hA
  refine va_calli (va_runV (As := [.int a1]) (rest := []) ⟨hx, hb, hml, hown, hts⟩ (qx_lend l dC dI cs adx mux okx H hPx (hDx.weaken (fun _ _ _ _ => trivial)) a1) (cwV 1 hts (wL_V mw_4_84 mw_4_81 mw_4_82 mw_4_83 mw_1_1) rfl rfl rfl (by decide +kernel) ⟨Nat.le_of_ble_eq_true rfl, Nat.le_of_ble_eq_true rfl⟩) ⟨sz_c, va_recv hKx hPx (ci := 11) (q0 := 0) rfl (gX_0 cs adx mux), sz_m hKx hz⟩ rfl rfl hl.1 rfl (lv_room (Nat.le_of_ble_eq_true rfl)) dL_law_1193 ⟨Nat.le_of_ble_eq_true rfl, Nat.le_of_ble_eq_true rfl⟩) hS (fun q _ h => hFx q h) hFx (fun r1 xi1 t H1 locs ht hvm hw1 hB hz1 hk1 hS => ?_)
  obtain ⟨okx, hw1, hkp1⟩ := hw1
  have hPx : va_P (dC, dI) vwCl (wR 157 adx (EX cs adx) xi1) H1 := by rw [← ht]; exact hB
  have hPm := kp_rest hD hPm hk1
  have hD : va_D (fun q : Nat => s.heap.size ≤ q) ((wR 157 adx (EX cs adx) xi1) ++ (wR 21 adm (EM cs adm) mum)) := wR_DD _ _ hD
  refine lv_pop hx hb dL_law_1196 rfl ?_
  refine lv_aload_n hx hb dL_law_1197 rfl (lv_at hl 1 rfl) ?_
  refine lv_aload_n hx hb dL_law_1198 rfl (lv_at hl 3 rfl) ?_
  refine lv_iload_n hx hb dL_law_1199 rfl (lv_at hl 0 rfl) ?_
  refine lv_iconst (v := 1) hx hb dL_law_1200 (by decide) ?_
  refine lv_iadd hx hb dL_law_1201 ?_
  refine lq_i t1 et1.symm ?_
  refine va_sld hx hb hX hbl hbA hS (show vp_in t1 L from vi_of (by omega) (by omega)) dL_law_1202 ?_
  refine lq_i a1 ea1.symm ?_
  have hDx := dl_left hD
  have hDm := dl_right hD
  have hFm := fr_all hDm hS hA
  refine va_calli (va_runV (As := [.int a1]) (rest := []) ⟨hx, hb, hml, hown, hts⟩ (qm_lend l dC dI cs adm mum okm H1 hPm (hDm.weaken (fun _ _ _ _ => trivial)) a1) (cwV 1 hts (wL_V mw_6_220 mw_6_217 mw_6_218 mw_6_219 mw_1_13) rfl rfl rfl (by decide +kernel) ⟨Nat.le_of_ble_eq_true rfl, Nat.le_of_ble_eq_true rfl⟩) ⟨sz_c, va_recv hKm hPm (ci := 12) (q0 := 0) rfl (gM_0 cs adm mum), sz_m hKm hz⟩ rfl rfl hl.1 rfl (lv_room (Nat.le_of_ble_eq_true rfl)) dL_law_1203 ⟨Nat.le_of_ble_eq_true rfl, Nat.le_of_ble_eq_true rfl⟩) hS (fun q _ h => hFm q h) hFm (fun r2 xi2 t H2 locs ht hvm hw2 hB hz1 hk1 hS => ?_)
  obtain ⟨okm, hw2, hkp2⟩ := hw2
  have hPm : va_P (dC, dI) vwCl (wR 21 adm (EM cs adm) xi2) H2 := by rw [← ht]; exact hB
  have hPx := kp_rest (pm_D List.perm_append_comm hD) hPx hk1
  have hD : va_D (fun q : Nat => s.heap.size ≤ q) ((wR 157 adx (EX cs adx) xi1) ++ (wR 21 adm (EM cs adm) xi2)) := wR_DD _ _ hD
  refine lv_pop hx hb dL_law_1206 rfl ?_
  refine lv_goto (tgt := 1641) hx hb dL_law_1207 (by decide) ?_
  exact KE xi1 xi2 _ _ _ ⟨okx, okm, ⟨simT_keep (by decide) (by decide) hkp1 hkp2 hsim.1, core_keep okm0 (by decide) (by decide) hkp1 hkp2 hsim.2⟩, hPx, hPm, hD, hS, hl⟩
set_option maxHeartbeats 4000000 in
set_option maxRecDepth 100000 in
theorem le_32 {p : Program} {e : Env} {s : State} {m : MethodId} {below : List Frame} {meth : Method} {c : Code} (l : Launch) {b L : Nat} {xs : Nat → Int32} {dC : Nat → ClassId} {dI : Nat → Nat → Nat} {cs : Nat → ClassId} {tt : Nat} {adx adm : Nat → Nat} {i : Int32} (F1 : lw_F p s m meth c b L xs dC dI cs tt) {mux mum : Nat → Nat → Int32} {H : Heap} {locs : List Loc} {ls : Array Slot} (J0 : lw_J s b dC dI cs adx adm i mux mum H locs ls) (hL : L ≤ 384) (hi : 0 ≤ i.toInt ∧ i.toInt + 6 ≤ L) (KE : ∀ (mux mum : Nat → Nat → Int32) (H : Heap) (locs : List Loc) (ls : Array Slot), lw_J s b dC dI cs adx adm i mux mum H locs ls → W p l e room_1 s m #[Value.ref b] below meth c H locs 178 3099 (lw_Z below #[Value.ref b] s) (F0 m 1641 ls [])) : W p l e room_1 s m #[Value.ref b] below meth c H locs 178 3099 (lw_Z below #[Value.ref b] s) (F0 m 1210 ls []) := by
  have F2 := F1
  have J1 := J0
  obtain ⟨C0, hKx, hKm, hz, hks⟩ := F1
  obtain ⟨hx, hb, hr, hml, hown0, hts0, hX, hbl, hlocks, hgv⟩ := C0
  obtain ⟨okx, okm, hsim, hPx, hPm, hD, hS, hl⟩ := J0
  have okx0 := okx
  have okm0 := okm
  have hown : s.vm.findClass RL = some m.cls := hown0
  have hts := hts0
  have hbA : ¬ (fun q : Nat => s.heap.size ≤ q) b := Nat.not_le.mpr hbl
  have hA : ∀ q : Nat, s.heap.size ≤ q → (fun q : Nat => s.heap.size ≤ q) q := fun _ h => h
  refine lv_aload_n hx hb dL_law_1210 rfl (lv_at hl 2 rfl) ?_
  refine lv_aload_n hx hb dL_law_1211 rfl (lv_at hl 3 rfl) ?_
  refine lv_iload_n hx hb dL_law_1212 rfl (lv_at hl 0 rfl) ?_
  refine lv_iconst (v := 1) hx hb dL_law_1213 (by decide) ?_
  refine lv_iadd hx hb dL_law_1214 ?_
  refine lv_topi (fun t1 et1 => ?_)
  have at1 : t1.toInt = i.toInt + 1 := by rw [et1]; exact tI_add rfl (rfl : (1 : Int32).toInt = _) (by show _ ≤ i.toInt + (1 : Int); omega) (by show i.toInt + (1 : Int) < _; omega)
  refine va_sld hx hb hX hbl hbA hS (show vp_in t1 L from vi_of (by omega) (by omega)) dL_law_1215 ?_
  refine lv_topi (fun a1 ea1 => ?_)
  have hDx := dl_left hD
  have hDm := dl_right hD
  have hFx := fr_all hDx hS hA
  refine va_calli (va_runV (As := [.int a1]) (rest := []) ⟨hx, hb, hml, hown, hts⟩ (qx_block l dC dI cs adx mux okx H hPx (hDx.weaken (fun _ _ _ _ => trivial)) a1) (cwV 1 hts (wL_V mw_4_93 mw_4_90 mw_4_91 mw_4_92 mw_1_1) rfl rfl rfl (by decide +kernel) ⟨Nat.le_of_ble_eq_true rfl, Nat.le_of_ble_eq_true rfl⟩) ⟨sz_c, va_recv hKx hPx (ci := 11) (q0 := 0) rfl (gX_0 cs adx mux), sz_m hKx hz⟩ rfl rfl hl.1 rfl (lv_room (Nat.le_of_ble_eq_true rfl)) dL_law_1216 ⟨Nat.le_of_ble_eq_true rfl, Nat.le_of_ble_eq_true rfl⟩) hS (fun q _ h => hFx q h) hFx (fun r1 xi1 t H1 locs ht hvm hw1 hB hz1 hk1 hS => ?_)
  obtain ⟨okx, hw1, hkp1⟩ := hw1
  have hPx : va_P (dC, dI) vwCl (wR 157 adx (EX cs adx) xi1) H1 := by rw [← ht]; exact hB
  have hPm := kp_rest hD hPm hk1
  have hD : va_D (fun q : Nat => s.heap.size ≤ q) ((wR 157 adx (EX cs adx) xi1) ++ (wR 21 adm (EM cs adm) mum)) := wR_DD _ _ hD
  refine lv_pop hx hb dL_law_1219 rfl ?_
  refine lv_aload_n hx hb dL_law_1220 rfl (lv_at hl 1 rfl) ?_
  refine lv_aload_n hx hb dL_law_1221 rfl (lv_at hl 3 rfl) ?_
  refine lv_iload_n hx hb dL_law_1222 rfl (lv_at hl 0 rfl) ?_
  refine lv_iconst (v := 1) hx hb dL_law_1223 (by decide) ?_
  refine lv_iadd hx hb dL_law_1224 ?_
  refine lq_i t1 et1.symm ?_
  refine va_sld hx hb hX hbl hbA hS (show vp_in t1 L from vi_of (by omega) (by omega)) dL_law_1225 ?_
  refine lq_i a1 ea1.symm ?_
  have hDx := dl_left hD
  have hDm := dl_right hD
  have hFm := fr_all hDm hS hA
  refine va_calli (va_runV (As := [.int a1]) (rest := []) ⟨hx, hb, hml, hown, hts⟩ (qm_block l dC dI cs adm mum okm H1 hPm (hDm.weaken (fun _ _ _ _ => trivial)) a1) (cwV 1 hts (wL_V mw_6_224 mw_6_221 mw_6_222 mw_6_223 mw_1_13) rfl rfl rfl (by decide +kernel) ⟨Nat.le_of_ble_eq_true rfl, Nat.le_of_ble_eq_true rfl⟩) ⟨sz_c, va_recv hKm hPm (ci := 12) (q0 := 0) rfl (gM_0 cs adm mum), sz_m hKm hz⟩ rfl rfl hl.1 rfl (lv_room (Nat.le_of_ble_eq_true rfl)) dL_law_1226 ⟨Nat.le_of_ble_eq_true rfl, Nat.le_of_ble_eq_true rfl⟩) hS (fun q _ h => hFm q h) hFm (fun r2 xi2 t H2 locs ht hvm hw2 hB hz1 hk1 hS => ?_)
  obtain ⟨okm, hw2, hkp2⟩ := hw2
  have hPm : va_P (dC, dI) vwCl (wR 21 adm (EM cs adm) xi2) H2 := by rw [← ht]; exact hB
  have hPx := kp_rest (pm_D List.perm_append_comm hD) hPx hk1
  have hD : va_D (fun q : Nat => s.heap.size ≤ q) ((wR 157 adx (EX cs adx) xi1) ++ (wR 21 adm (EM cs adm) xi2)) := wR_DD _ _ hD
  refine lv_pop hx hb dL_law_1229 rfl ?_
  refine lv_goto (tgt := 1641) hx hb dL_law_1230 (by decide) ?_
  exact KE xi1 xi2 _ _ _ ⟨okx, okm, ⟨simT_keep (by decide) (by decide) hkp1 hkp2 hsim.1, core_keep okm0 (by decide) (by decide) hkp1 hkp2 hsim.2⟩, hPx, hPm, hD, hS, hl⟩
set_option maxHeartbeats 4000000 in
set_option maxRecDepth 100000 in
theorem le_33 {p : Program} {e : Env} {s : State} {m : MethodId} {below : List Frame} {meth : Method} {c : Code} (l : Launch) {b L : Nat} {xs : Nat → Int32} {dC : Nat → ClassId} {dI : Nat → Nat → Nat} {cs : Nat → ClassId} {tt : Nat} {adx adm : Nat → Nat} {i : Int32} (F1 : lw_F p s m meth c b L xs dC dI cs tt) {mux mum : Nat → Nat → Int32} {H : Heap} {locs : List Loc} {ls : Array Slot} (J0 : lw_J s b dC dI cs adx adm i mux mum H locs ls) (hL : L ≤ 384) (hi : 0 ≤ i.toInt ∧ i.toInt + 6 ≤ L) (KE : ∀ (mux mum : Nat → Nat → Int32) (H : Heap) (locs : List Loc) (ls : Array Slot), lw_J s b dC dI cs adx adm i mux mum H locs ls → W p l e room_1 s m #[Value.ref b] below meth c H locs 178 3099 (lw_Z below #[Value.ref b] s) (F0 m 1641 ls [])) : W p l e room_1 s m #[Value.ref b] below meth c H locs 178 3099 (lw_Z below #[Value.ref b] s) (F0 m 1233 ls []) := by
  have F2 := F1
  have J1 := J0
  obtain ⟨C0, hKx, hKm, hz, hks⟩ := F1
  obtain ⟨hx, hb, hr, hml, hown0, hts0, hX, hbl, hlocks, hgv⟩ := C0
  obtain ⟨okx, okm, hsim, hPx, hPm, hD, hS, hl⟩ := J0
  have okx0 := okx
  have okm0 := okm
  have hown : s.vm.findClass RL = some m.cls := hown0
  have hts := hts0
  have hbA : ¬ (fun q : Nat => s.heap.size ≤ q) b := Nat.not_le.mpr hbl
  have hA : ∀ q : Nat, s.heap.size ≤ q → (fun q : Nat => s.heap.size ≤ q) q := fun _ h => h
  refine lv_aload_n hx hb dL_law_1233 rfl (lv_at hl 2 rfl) ?_
  refine lv_aload_n hx hb dL_law_1234 rfl (lv_at hl 3 rfl) ?_
  refine lv_iload_n hx hb dL_law_1235 rfl (lv_at hl 0 rfl) ?_
  refine lv_iconst (v := 1) hx hb dL_law_1236 (by decide) ?_
  refine lv_iadd hx hb dL_law_1237 ?_
  refine lv_topi (fun t1 et1 => ?_)
  have at1 : t1.toInt = i.toInt + 1 := by rw [et1]; exact tI_add rfl (rfl : (1 : Int32).toInt = _) (by show _ ≤ i.toInt + (1 : Int); omega) (by show i.toInt + (1 : Int) < _; omega)
  refine va_sld hx hb hX hbl hbA hS (show vp_in t1 L from vi_of (by omega) (by omega)) dL_law_1238 ?_
  refine lv_topi (fun a1 ea1 => ?_)
  refine lv_aload_n hx hb dL_law_1239 rfl (lv_at hl 3 rfl) ?_
  refine lv_iload_n hx hb dL_law_1240 rfl (lv_at hl 0 rfl) ?_
  refine lv_iconst (v := 2) hx hb dL_law_1241 (by decide) ?_
  refine lv_iadd hx hb dL_law_1242 ?_
  refine lv_topi (fun t2 et2 => ?_)
  have at2 : t2.toInt = i.toInt + 2 := by rw [et2]; exact tI_add rfl (rfl : (2 : Int32).toInt = _) (by show _ ≤ i.toInt + (2 : Int); omega) (by show i.toInt + (2 : Int) < _; omega)
  refine va_sld hx hb hX hbl hbA hS (show vp_in t2 L from vi_of (by omega) (by omega)) dL_law_1243 ?_
  refine lv_topi (fun a2 ea2 => ?_)
  refine lv_aload_n hx hb dL_law_1244 rfl (lv_at hl 3 rfl) ?_
  refine lv_iload_n hx hb dL_law_1245 rfl (lv_at hl 0 rfl) ?_
  refine lv_iconst (v := 3) hx hb dL_law_1246 (by decide) ?_
  refine lv_iadd hx hb dL_law_1247 ?_
  refine lv_topi (fun t3 et3 => ?_)
  have at3 : t3.toInt = i.toInt + 3 := by rw [et3]; exact tI_add rfl (rfl : (3 : Int32).toInt = _) (by show _ ≤ i.toInt + (3 : Int); omega) (by show i.toInt + (3 : Int) < _; omega)
  refine va_sld hx hb hX hbl hbA hS (show vp_in t3 L from vi_of (by omega) (by omega)) dL_law_1248 ?_
  refine lv_topi (fun a3 ea3 => ?_)
  have hDx := dl_left hD
  have hDm := dl_right hD
  have hFx := fr_all hDx hS hA
  refine va_calli (va_runV (As := [.int a1, .int a2, .int a3]) (rest := []) ⟨hx, hb, hml, hown, hts⟩ (qx_worth l dC dI cs adx mux okx H hPx (hDx.weaken (fun _ _ _ _ => trivial)) a1 a2 a3) (cwV 3 hts (wL_V mw_4_110 mw_4_107 mw_4_108 mw_4_109 mw_1_1) rfl rfl rfl (by decide +kernel) ⟨Nat.le_of_ble_eq_true rfl, Nat.le_of_ble_eq_true rfl⟩) ⟨sz_c, va_recv hKx hPx (ci := 11) (q0 := 0) rfl (gX_0 cs adx mux), sz_m hKx hz⟩ rfl rfl hl.1 rfl (lv_room (Nat.le_of_ble_eq_true rfl)) dL_law_1249 ⟨Nat.le_of_ble_eq_true rfl, Nat.le_of_ble_eq_true rfl⟩) hS (fun q _ h => hFx q h) hFx (fun r1 xi1 t H1 locs ht hvm hw1 hB hz1 hk1 hS => ?_)
  obtain ⟨okx, hw1, hkp1⟩ := hw1
  have hPx : va_P (dC, dI) vwCl (wR 157 adx (EX cs adx) xi1) H1 := by rw [← ht]; exact hB
  have hPm := kp_rest hD hPm hk1
  have hD : va_D (fun q : Nat => s.heap.size ≤ q) ((wR 157 adx (EX cs adx) xi1) ++ (wR 21 adm (EM cs adm) mum)) := wR_DD _ _ hD
  refine lv_pop hx hb dL_law_1252 rfl ?_
  refine lv_aload_n hx hb dL_law_1253 rfl (lv_at hl 1 rfl) ?_
  refine lv_aload_n hx hb dL_law_1254 rfl (lv_at hl 3 rfl) ?_
  refine lv_iload_n hx hb dL_law_1255 rfl (lv_at hl 0 rfl) ?_
  refine lv_iconst (v := 1) hx hb dL_law_1256 (by decide) ?_
  refine lv_iadd hx hb dL_law_1257 ?_
  refine lq_i t1 et1.symm ?_
  refine va_sld hx hb hX hbl hbA hS (show vp_in t1 L from vi_of (by omega) (by omega)) dL_law_1258 ?_
  refine lq_i a1 ea1.symm ?_
  refine lv_aload_n hx hb dL_law_1259 rfl (lv_at hl 3 rfl) ?_
  refine lv_iload_n hx hb dL_law_1260 rfl (lv_at hl 0 rfl) ?_
  refine lv_iconst (v := 2) hx hb dL_law_1261 (by decide) ?_
  refine lv_iadd hx hb dL_law_1262 ?_
  refine lq_i t2 et2.symm ?_
  refine va_sld hx hb hX hbl hbA hS (show vp_in t2 L from vi_of (by omega) (by omega)) dL_law_1263 ?_
  refine lq_i a2 ea2.symm ?_
  refine lv_aload_n hx hb dL_law_1264 rfl (lv_at hl 3 rfl) ?_
  refine lv_iload_n hx hb dL_law_1265 rfl (lv_at hl 0 rfl) ?_
  refine lv_iconst (v := 3) hx hb dL_law_1266 (by decide) ?_
  refine lv_iadd hx hb dL_law_1267 ?_
  refine lq_i t3 et3.symm ?_
  refine va_sld hx hb hX hbl hbA hS (show vp_in t3 L from vi_of (by omega) (by omega)) dL_law_1268 ?_
  refine lq_i a3 ea3.symm ?_
  have hDx := dl_left hD
  have hDm := dl_right hD
  have hFm := fr_all hDm hS hA
  refine va_calli (va_runV (As := [.int a1, .int a2, .int a3]) (rest := []) ⟨hx, hb, hml, hown, hts⟩ (qm_worth l dC dI cs adm mum okm H1 hPm (hDm.weaken (fun _ _ _ _ => trivial)) a1 a2 a3) (cwV 3 hts (wL_V mw_6_228 mw_6_225 mw_6_226 mw_6_227 mw_1_13) rfl rfl rfl (by decide +kernel) ⟨Nat.le_of_ble_eq_true rfl, Nat.le_of_ble_eq_true rfl⟩) ⟨sz_c, va_recv hKm hPm (ci := 12) (q0 := 0) rfl (gM_0 cs adm mum), sz_m hKm hz⟩ rfl rfl hl.1 rfl (lv_room (Nat.le_of_ble_eq_true rfl)) dL_law_1269 ⟨Nat.le_of_ble_eq_true rfl, Nat.le_of_ble_eq_true rfl⟩) hS (fun q _ h => hFm q h) hFm (fun r2 xi2 t H2 locs ht hvm hw2 hB hz1 hk1 hS => ?_)
  obtain ⟨okm, hw2, hkp2⟩ := hw2
  have hPm : va_P (dC, dI) vwCl (wR 21 adm (EM cs adm) xi2) H2 := by rw [← ht]; exact hB
  have hPx := kp_rest (pm_D List.perm_append_comm hD) hPx hk1
  have hD : va_D (fun q : Nat => s.heap.size ≤ q) ((wR 157 adx (EX cs adx) xi1) ++ (wR 21 adm (EM cs adm) xi2)) := wR_DD _ _ hD
  refine lv_pop hx hb dL_law_1272 rfl ?_
  refine lv_goto (tgt := 1641) hx hb dL_law_1273 (by decide) ?_
  exact KE xi1 xi2 _ _ _ ⟨okx, okm, ⟨simT_keep (by decide) (by decide) hkp1 hkp2 hsim.1, core_keep okm0 (by decide) (by decide) hkp1 hkp2 hsim.2⟩, hPx, hPm, hD, hS, hl⟩
set_option maxHeartbeats 4000000 in
set_option maxRecDepth 100000 in
theorem le_34 {p : Program} {e : Env} {s : State} {m : MethodId} {below : List Frame} {meth : Method} {c : Code} (l : Launch) {b L : Nat} {xs : Nat → Int32} {dC : Nat → ClassId} {dI : Nat → Nat → Nat} {cs : Nat → ClassId} {tt : Nat} {adx adm : Nat → Nat} {i : Int32} (F1 : lw_F p s m meth c b L xs dC dI cs tt) {mux mum : Nat → Nat → Int32} {H : Heap} {locs : List Loc} {ls : Array Slot} (J0 : lw_J s b dC dI cs adx adm i mux mum H locs ls) (hL : L ≤ 384) (hi : 0 ≤ i.toInt ∧ i.toInt + 6 ≤ L) (KE : ∀ (mux mum : Nat → Nat → Int32) (H : Heap) (locs : List Loc) (ls : Array Slot), lw_J s b dC dI cs adx adm i mux mum H locs ls → W p l e room_1 s m #[Value.ref b] below meth c H locs 178 3099 (lw_Z below #[Value.ref b] s) (F0 m 1641 ls [])) : W p l e room_1 s m #[Value.ref b] below meth c H locs 178 3099 (lw_Z below #[Value.ref b] s) (F0 m 1276 ls []) := by
  have F2 := F1
  have J1 := J0
  obtain ⟨C0, hKx, hKm, hz, hks⟩ := F1
  obtain ⟨hx, hb, hr, hml, hown0, hts0, hX, hbl, hlocks, hgv⟩ := C0
  obtain ⟨okx, okm, hsim, hPx, hPm, hD, hS, hl⟩ := J0
  have okx0 := okx
  have okm0 := okm
  have hown : s.vm.findClass RL = some m.cls := hown0
  have hts := hts0
  have hbA : ¬ (fun q : Nat => s.heap.size ≤ q) b := Nat.not_le.mpr hbl
  have hA : ∀ q : Nat, s.heap.size ≤ q → (fun q : Nat => s.heap.size ≤ q) q := fun _ h => h
  refine lv_aload_n hx hb dL_law_1276 rfl (lv_at hl 2 rfl) ?_
  refine lv_aload_n hx hb dL_law_1277 rfl (lv_at hl 3 rfl) ?_
  refine lv_iload_n hx hb dL_law_1278 rfl (lv_at hl 0 rfl) ?_
  refine lv_iconst (v := 1) hx hb dL_law_1279 (by decide) ?_
  refine lv_iadd hx hb dL_law_1280 ?_
  refine lv_topi (fun t1 et1 => ?_)
  have at1 : t1.toInt = i.toInt + 1 := by rw [et1]; exact tI_add rfl (rfl : (1 : Int32).toInt = _) (by show _ ≤ i.toInt + (1 : Int); omega) (by show i.toInt + (1 : Int) < _; omega)
  refine va_sld hx hb hX hbl hbA hS (show vp_in t1 L from vi_of (by omega) (by omega)) dL_law_1281 ?_
  refine lv_topi (fun a1 ea1 => ?_)
  have hDx := dl_left hD
  have hDm := dl_right hD
  have hFx := fr_all hDx hS hA
  refine va_calli (va_runV (As := [.int a1]) (rest := []) ⟨hx, hb, hml, hown, hts⟩ (qx_bundle l dC dI cs adx mux okx H hPx (hDx.weaken (fun _ _ _ _ => trivial)) a1) (cwV 1 hts (wL_V mw_4_125 mw_4_122 mw_4_123 mw_4_124 mw_1_1) rfl rfl rfl (by decide +kernel) ⟨Nat.le_of_ble_eq_true rfl, Nat.le_of_ble_eq_true rfl⟩) ⟨sz_c, va_recv hKx hPx (ci := 11) (q0 := 0) rfl (gX_0 cs adx mux), sz_m hKx hz⟩ rfl rfl hl.1 rfl (lv_room (Nat.le_of_ble_eq_true rfl)) dL_law_1282 ⟨Nat.le_of_ble_eq_true rfl, Nat.le_of_ble_eq_true rfl⟩) hS (fun q _ h => hFx q h) hFx (fun r1 xi1 t H1 locs ht hvm hw1 hB hz1 hk1 hS => ?_)
  obtain ⟨hfe1, okx, hw1, hkp1⟩ := hw1
  have hPx : va_P (dC, dI) vwCl (wR 157 adx (EX cs adx) xi1) H1 := by rw [← ht]; exact hB
  have hPm := kp_rest hD hPm hk1
  have hD : va_D (fun q : Nat => s.heap.size ≤ q) ((wR 157 adx (EX cs adx) xi1) ++ (wR 21 adm (EM cs adm) mum)) := wR_DD _ _ hD
  refine lv_pop hx hb dL_law_1285 rfl ?_
  refine lv_aload_n hx hb dL_law_1286 rfl (lv_at hl 1 rfl) ?_
  refine lv_aload_n hx hb dL_law_1287 rfl (lv_at hl 3 rfl) ?_
  refine lv_iload_n hx hb dL_law_1288 rfl (lv_at hl 0 rfl) ?_
  refine lv_iconst (v := 1) hx hb dL_law_1289 (by decide) ?_
  refine lv_iadd hx hb dL_law_1290 ?_
  refine lq_i t1 et1.symm ?_
  refine va_sld hx hb hX hbl hbA hS (show vp_in t1 L from vi_of (by omega) (by omega)) dL_law_1291 ?_
  refine lq_i a1 ea1.symm ?_
  have hDx := dl_left hD
  have hDm := dl_right hD
  have hFm := fr_all hDm hS hA
  refine va_calli (va_runV (As := [.int a1]) (rest := []) ⟨hx, hb, hml, hown, hts⟩ (qm_bundle l dC dI cs adm mum okm H1 hPm (hDm.weaken (fun _ _ _ _ => trivial)) a1) (cwV 1 hts (wL_V mw_6_236 mw_6_233 mw_6_234 mw_6_235 mw_1_13) rfl rfl rfl (by decide +kernel) ⟨Nat.le_of_ble_eq_true rfl, Nat.le_of_ble_eq_true rfl⟩) ⟨sz_c, va_recv hKm hPm (ci := 12) (q0 := 0) rfl (gM_0 cs adm mum), sz_m hKm hz⟩ rfl rfl hl.1 rfl (lv_room (Nat.le_of_ble_eq_true rfl)) dL_law_1292 ⟨Nat.le_of_ble_eq_true rfl, Nat.le_of_ble_eq_true rfl⟩) hS (fun q _ h => hFm q h) hFm (fun r2 xi2 t H2 locs ht hvm hw2 hB hz1 hk1 hS => ?_)
  obtain ⟨hfe2, okm, hw2, hkp2⟩ := hw2
  have hPm : va_P (dC, dI) vwCl (wR 21 adm (EM cs adm) xi2) H2 := by rw [← ht]; exact hB
  have hPx := kp_rest (pm_D List.perm_append_comm hD) hPx hk1
  have hD : va_D (fun q : Nat => s.heap.size ≤ q) ((wR 157 adx (EX cs adx) xi1) ++ (wR 21 adm (EM cs adm) xi2)) := wR_DD _ _ hD
  refine lv_pop hx hb dL_law_1295 rfl ?_
  refine lv_goto (tgt := 1641) hx hb dL_law_1296 (by decide) ?_
  exact KE xi1 xi2 _ _ _ ⟨okx, okm, ⟨simT_keep (by decide) (by decide) hkp1 hkp2 hsim.1, core_keep okm0 (by decide) (by decide) hkp1 hkp2 hsim.2⟩, hPx, hPm, hD, hS, hl⟩
set_option maxHeartbeats 4000000 in
set_option maxRecDepth 100000 in
theorem le_35 {p : Program} {e : Env} {s : State} {m : MethodId} {below : List Frame} {meth : Method} {c : Code} (l : Launch) {b L : Nat} {xs : Nat → Int32} {dC : Nat → ClassId} {dI : Nat → Nat → Nat} {cs : Nat → ClassId} {tt : Nat} {adx adm : Nat → Nat} {i : Int32} (F1 : lw_F p s m meth c b L xs dC dI cs tt) {mux mum : Nat → Nat → Int32} {H : Heap} {locs : List Loc} {ls : Array Slot} (J0 : lw_J s b dC dI cs adx adm i mux mum H locs ls) (hL : L ≤ 384) (hi : 0 ≤ i.toInt ∧ i.toInt + 6 ≤ L) (KE : ∀ (mux mum : Nat → Nat → Int32) (H : Heap) (locs : List Loc) (ls : Array Slot), lw_J s b dC dI cs adx adm i mux mum H locs ls → W p l e room_1 s m #[Value.ref b] below meth c H locs 178 3099 (lw_Z below #[Value.ref b] s) (F0 m 1641 ls [])) : W p l e room_1 s m #[Value.ref b] below meth c H locs 178 3099 (lw_Z below #[Value.ref b] s) (F0 m 1299 ls []) := by
  have F2 := F1
  have J1 := J0
  obtain ⟨C0, hKx, hKm, hz, hks⟩ := F1
  obtain ⟨hx, hb, hr, hml, hown0, hts0, hX, hbl, hlocks, hgv⟩ := C0
  obtain ⟨okx, okm, hsim, hPx, hPm, hD, hS, hl⟩ := J0
  have okx0 := okx
  have okm0 := okm
  have hown : s.vm.findClass RL = some m.cls := hown0
  have hts := hts0
  have hbA : ¬ (fun q : Nat => s.heap.size ≤ q) b := Nat.not_le.mpr hbl
  have hA : ∀ q : Nat, s.heap.size ≤ q → (fun q : Nat => s.heap.size ≤ q) q := fun _ h => h
  refine lv_aload_n hx hb dL_law_1299 rfl (lv_at hl 2 rfl) ?_
  refine lv_aload_n hx hb dL_law_1300 rfl (lv_at hl 3 rfl) ?_
  refine lv_iload_n hx hb dL_law_1301 rfl (lv_at hl 0 rfl) ?_
  refine lv_iconst (v := 1) hx hb dL_law_1302 (by decide) ?_
  refine lv_iadd hx hb dL_law_1303 ?_
  refine lv_topi (fun t1 et1 => ?_)
  have at1 : t1.toInt = i.toInt + 1 := by rw [et1]; exact tI_add rfl (rfl : (1 : Int32).toInt = _) (by show _ ≤ i.toInt + (1 : Int); omega) (by show i.toInt + (1 : Int) < _; omega)
  refine va_sld hx hb hX hbl hbA hS (show vp_in t1 L from vi_of (by omega) (by omega)) dL_law_1304 ?_
  refine lv_topi (fun a1 ea1 => ?_)
  have hDx := dl_left hD
  have hDm := dl_right hD
  have hFx := fr_all hDx hS hA
  refine va_calli (va_runV (As := [.int a1]) (rest := []) ⟨hx, hb, hml, hown, hts⟩ (qx_post l dC dI cs adx mux okx H hPx (hDx.weaken (fun _ _ _ _ => trivial)) a1) (cwV 1 hts (wL_V mw_4_138 mw_4_135 mw_4_136 mw_4_137 mw_1_1) rfl rfl rfl (by decide +kernel) ⟨Nat.le_of_ble_eq_true rfl, Nat.le_of_ble_eq_true rfl⟩) ⟨sz_c, va_recv hKx hPx (ci := 11) (q0 := 0) rfl (gX_0 cs adx mux), sz_m hKx hz⟩ rfl rfl hl.1 rfl (lv_room (Nat.le_of_ble_eq_true rfl)) dL_law_1305 ⟨Nat.le_of_ble_eq_true rfl, Nat.le_of_ble_eq_true rfl⟩) hS (fun q _ h => hFx q h) hFx (fun r1 xi1 t H1 locs ht hvm hw1 hB hz1 hk1 hS => ?_)
  obtain ⟨okx, hw1, hkp1⟩ := hw1
  have hPx : va_P (dC, dI) vwCl (wR 157 adx (EX cs adx) xi1) H1 := by rw [← ht]; exact hB
  have hPm := kp_rest hD hPm hk1
  have hD : va_D (fun q : Nat => s.heap.size ≤ q) ((wR 157 adx (EX cs adx) xi1) ++ (wR 21 adm (EM cs adm) mum)) := wR_DD _ _ hD
  refine lv_pop hx hb dL_law_1308 rfl ?_
  refine lv_aload_n hx hb dL_law_1309 rfl (lv_at hl 1 rfl) ?_
  refine lv_aload_n hx hb dL_law_1310 rfl (lv_at hl 3 rfl) ?_
  refine lv_iload_n hx hb dL_law_1311 rfl (lv_at hl 0 rfl) ?_
  refine lv_iconst (v := 1) hx hb dL_law_1312 (by decide) ?_
  refine lv_iadd hx hb dL_law_1313 ?_
  refine lq_i t1 et1.symm ?_
  refine va_sld hx hb hX hbl hbA hS (show vp_in t1 L from vi_of (by omega) (by omega)) dL_law_1314 ?_
  refine lq_i a1 ea1.symm ?_
  have hDx := dl_left hD
  have hDm := dl_right hD
  have hFm := fr_all hDm hS hA
  refine va_calli (va_runV (As := [.int a1]) (rest := []) ⟨hx, hb, hml, hown, hts⟩ (qm_post l dC dI cs adm mum okm H1 hPm (hDm.weaken (fun _ _ _ _ => trivial)) a1) (cwV 1 hts (wL_V mw_7_0 mw_6_237 mw_6_238 mw_6_239 mw_1_13) rfl rfl rfl (by decide +kernel) ⟨Nat.le_of_ble_eq_true rfl, Nat.le_of_ble_eq_true rfl⟩) ⟨sz_c, va_recv hKm hPm (ci := 12) (q0 := 0) rfl (gM_0 cs adm mum), sz_m hKm hz⟩ rfl rfl hl.1 rfl (lv_room (Nat.le_of_ble_eq_true rfl)) dL_law_1315 ⟨Nat.le_of_ble_eq_true rfl, Nat.le_of_ble_eq_true rfl⟩) hS (fun q _ h => hFm q h) hFm (fun r2 xi2 t H2 locs ht hvm hw2 hB hz1 hk1 hS => ?_)
  obtain ⟨okm, hw2, hkp2⟩ := hw2
  have hPm : va_P (dC, dI) vwCl (wR 21 adm (EM cs adm) xi2) H2 := by rw [← ht]; exact hB
  have hPx := kp_rest (pm_D List.perm_append_comm hD) hPx hk1
  have hD : va_D (fun q : Nat => s.heap.size ≤ q) ((wR 157 adx (EX cs adx) xi1) ++ (wR 21 adm (EM cs adm) xi2)) := wR_DD _ _ hD
  refine lv_pop hx hb dL_law_1318 rfl ?_
  refine lv_goto (tgt := 1641) hx hb dL_law_1319 (by decide) ?_
  exact KE xi1 xi2 _ _ _ ⟨okx, okm, ⟨simT_keep (by decide) (by decide) hkp1 hkp2 hsim.1, core_keep okm0 (by decide) (by decide) hkp1 hkp2 hsim.2⟩, hPx, hPm, hD, hS, hl⟩
set_option maxHeartbeats 4000000 in
set_option maxRecDepth 100000 in
theorem le_36 {p : Program} {e : Env} {s : State} {m : MethodId} {below : List Frame} {meth : Method} {c : Code} (l : Launch) {b L : Nat} {xs : Nat → Int32} {dC : Nat → ClassId} {dI : Nat → Nat → Nat} {cs : Nat → ClassId} {tt : Nat} {adx adm : Nat → Nat} {i : Int32} (F1 : lw_F p s m meth c b L xs dC dI cs tt) {mux mum : Nat → Nat → Int32} {H : Heap} {locs : List Loc} {ls : Array Slot} (J0 : lw_J s b dC dI cs adx adm i mux mum H locs ls) (hL : L ≤ 384) (hi : 0 ≤ i.toInt ∧ i.toInt + 6 ≤ L) (KE : ∀ (mux mum : Nat → Nat → Int32) (H : Heap) (locs : List Loc) (ls : Array Slot), lw_J s b dC dI cs adx adm i mux mum H locs ls → W p l e room_1 s m #[Value.ref b] below meth c H locs 178 3099 (lw_Z below #[Value.ref b] s) (F0 m 1641 ls [])) : W p l e room_1 s m #[Value.ref b] below meth c H locs 178 3099 (lw_Z below #[Value.ref b] s) (F0 m 1322 ls []) := by
  have F2 := F1
  have J1 := J0
  obtain ⟨C0, hKx, hKm, hz, hks⟩ := F1
  obtain ⟨hx, hb, hr, hml, hown0, hts0, hX, hbl, hlocks, hgv⟩ := C0
  obtain ⟨okx, okm, hsim, hPx, hPm, hD, hS, hl⟩ := J0
  have okx0 := okx
  have okm0 := okm
  have hown : s.vm.findClass RL = some m.cls := hown0
  have hts := hts0
  have hbA : ¬ (fun q : Nat => s.heap.size ≤ q) b := Nat.not_le.mpr hbl
  have hA : ∀ q : Nat, s.heap.size ≤ q → (fun q : Nat => s.heap.size ≤ q) q := fun _ h => h
  refine lv_aload_n hx hb dL_law_1322 rfl (lv_at hl 2 rfl) ?_
  refine lv_aload_n hx hb dL_law_1323 rfl (lv_at hl 3 rfl) ?_
  refine lv_iload_n hx hb dL_law_1324 rfl (lv_at hl 0 rfl) ?_
  refine lv_iconst (v := 1) hx hb dL_law_1325 (by decide) ?_
  refine lv_iadd hx hb dL_law_1326 ?_
  refine lv_topi (fun t1 et1 => ?_)
  have at1 : t1.toInt = i.toInt + 1 := by rw [et1]; exact tI_add rfl (rfl : (1 : Int32).toInt = _) (by show _ ≤ i.toInt + (1 : Int); omega) (by show i.toInt + (1 : Int) < _; omega)
  refine va_sld hx hb hX hbl hbA hS (show vp_in t1 L from vi_of (by omega) (by omega)) dL_law_1327 ?_
  refine lv_topi (fun a1 ea1 => ?_)
  refine lv_aload_n hx hb dL_law_1328 rfl (lv_at hl 3 rfl) ?_
  refine lv_iload_n hx hb dL_law_1329 rfl (lv_at hl 0 rfl) ?_
  refine lv_iconst (v := 2) hx hb dL_law_1330 (by decide) ?_
  refine lv_iadd hx hb dL_law_1331 ?_
  refine lv_topi (fun t2 et2 => ?_)
  have at2 : t2.toInt = i.toInt + 2 := by rw [et2]; exact tI_add rfl (rfl : (2 : Int32).toInt = _) (by show _ ≤ i.toInt + (2 : Int); omega) (by show i.toInt + (2 : Int) < _; omega)
  refine va_sld hx hb hX hbl hbA hS (show vp_in t2 L from vi_of (by omega) (by omega)) dL_law_1332 ?_
  refine lv_topi (fun a2 ea2 => ?_)
  refine lv_aload_n hx hb dL_law_1333 rfl (lv_at hl 3 rfl) ?_
  refine lv_iload_n hx hb dL_law_1334 rfl (lv_at hl 0 rfl) ?_
  refine lv_iconst (v := 3) hx hb dL_law_1335 (by decide) ?_
  refine lv_iadd hx hb dL_law_1336 ?_
  refine lv_topi (fun t3 et3 => ?_)
  have at3 : t3.toInt = i.toInt + 3 := by rw [et3]; exact tI_add rfl (rfl : (3 : Int32).toInt = _) (by show _ ≤ i.toInt + (3 : Int); omega) (by show i.toInt + (3 : Int) < _; omega)
  refine va_sld hx hb hX hbl hbA hS (show vp_in t3 L from vi_of (by omega) (by omega)) dL_law_1337 ?_
  refine lv_topi (fun a3 ea3 => ?_)
  have hDx := dl_left hD
  have hDm := dl_right hD
  have hFx := fr_all hDx hS hA
  refine va_calli (va_runV (As := [.int a1, .int a2, .int a3]) (rest := []) ⟨hx, hb, hml, hown, hts⟩ (qx_fake l dC dI cs adx mux okx H hPx (hDx.weaken (fun _ _ _ _ => trivial)) a1 a2 a3) (cwV 3 hts (wL_V mw_4_146 mw_4_143 mw_4_144 mw_4_145 mw_1_1) rfl rfl rfl (by decide +kernel) ⟨Nat.le_of_ble_eq_true rfl, Nat.le_of_ble_eq_true rfl⟩) ⟨sz_c, va_recv hKx hPx (ci := 11) (q0 := 0) rfl (gX_0 cs adx mux), sz_m hKx hz⟩ rfl rfl hl.1 rfl (lv_room (Nat.le_of_ble_eq_true rfl)) dL_law_1338 ⟨Nat.le_of_ble_eq_true rfl, Nat.le_of_ble_eq_true rfl⟩) hS (fun q _ h => hFx q h) hFx (fun r1 xi1 t H1 locs ht hvm hw1 hB hz1 hk1 hS => ?_)
  obtain ⟨okx, hw1, hkp1⟩ := hw1
  have hPx : va_P (dC, dI) vwCl (wR 157 adx (EX cs adx) xi1) H1 := by rw [← ht]; exact hB
  have hPm := kp_rest hD hPm hk1
  have hD : va_D (fun q : Nat => s.heap.size ≤ q) ((wR 157 adx (EX cs adx) xi1) ++ (wR 21 adm (EM cs adm) mum)) := wR_DD _ _ hD
  refine lv_pop hx hb dL_law_1341 rfl ?_
  refine lv_aload_n hx hb dL_law_1342 rfl (lv_at hl 1 rfl) ?_
  refine lv_aload_n hx hb dL_law_1343 rfl (lv_at hl 3 rfl) ?_
  refine lv_iload_n hx hb dL_law_1344 rfl (lv_at hl 0 rfl) ?_
  refine lv_iconst (v := 1) hx hb dL_law_1345 (by decide) ?_
  refine lv_iadd hx hb dL_law_1346 ?_
  refine lq_i t1 et1.symm ?_
  refine va_sld hx hb hX hbl hbA hS (show vp_in t1 L from vi_of (by omega) (by omega)) dL_law_1347 ?_
  refine lq_i a1 ea1.symm ?_
  refine lv_aload_n hx hb dL_law_1348 rfl (lv_at hl 3 rfl) ?_
  refine lv_iload_n hx hb dL_law_1349 rfl (lv_at hl 0 rfl) ?_
  refine lv_iconst (v := 2) hx hb dL_law_1350 (by decide) ?_
  refine lv_iadd hx hb dL_law_1351 ?_
  refine lq_i t2 et2.symm ?_
  refine va_sld hx hb hX hbl hbA hS (show vp_in t2 L from vi_of (by omega) (by omega)) dL_law_1352 ?_
  refine lq_i a2 ea2.symm ?_
  refine lv_aload_n hx hb dL_law_1353 rfl (lv_at hl 3 rfl) ?_
  refine lv_iload_n hx hb dL_law_1354 rfl (lv_at hl 0 rfl) ?_
  refine lv_iconst (v := 3) hx hb dL_law_1355 (by decide) ?_
  refine lv_iadd hx hb dL_law_1356 ?_
  refine lq_i t3 et3.symm ?_
  refine va_sld hx hb hX hbl hbA hS (show vp_in t3 L from vi_of (by omega) (by omega)) dL_law_1357 ?_
  refine lq_i a3 ea3.symm ?_
  have hDx := dl_left hD
  have hDm := dl_right hD
  have hFm := fr_all hDm hS hA
  refine va_calli (va_runV (As := [.int a1, .int a2, .int a3]) (rest := []) ⟨hx, hb, hml, hown, hts⟩ (qm_fake l dC dI cs adm mum okm H1 hPm (hDm.weaken (fun _ _ _ _ => trivial)) a1 a2 a3) (cwV 3 hts (wL_V mw_7_4 mw_7_1 mw_7_2 mw_7_3 mw_1_13) rfl rfl rfl (by decide +kernel) ⟨Nat.le_of_ble_eq_true rfl, Nat.le_of_ble_eq_true rfl⟩) ⟨sz_c, va_recv hKm hPm (ci := 12) (q0 := 0) rfl (gM_0 cs adm mum), sz_m hKm hz⟩ rfl rfl hl.1 rfl (lv_room (Nat.le_of_ble_eq_true rfl)) dL_law_1358 ⟨Nat.le_of_ble_eq_true rfl, Nat.le_of_ble_eq_true rfl⟩) hS (fun q _ h => hFm q h) hFm (fun r2 xi2 t H2 locs ht hvm hw2 hB hz1 hk1 hS => ?_)
  obtain ⟨okm, hw2, hkp2⟩ := hw2
  have hPm : va_P (dC, dI) vwCl (wR 21 adm (EM cs adm) xi2) H2 := by rw [← ht]; exact hB
  have hPx := kp_rest (pm_D List.perm_append_comm hD) hPx hk1
  have hD : va_D (fun q : Nat => s.heap.size ≤ q) ((wR 157 adx (EX cs adx) xi1) ++ (wR 21 adm (EM cs adm) xi2)) := wR_DD _ _ hD
  refine lv_pop hx hb dL_law_1361 rfl ?_
  refine lv_goto (tgt := 1641) hx hb dL_law_1362 (by decide) ?_
  exact KE xi1 xi2 _ _ _ ⟨okx, okm, ⟨simT_keep (by decide) (by decide) hkp1 hkp2 hsim.1, core_keep okm0 (by decide) (by decide) hkp1 hkp2 hsim.2⟩, hPx, hPm, hD, hS, hl⟩
set_option maxHeartbeats 4000000 in
set_option maxRecDepth 100000 in
theorem le_37 {p : Program} {e : Env} {s : State} {m : MethodId} {below : List Frame} {meth : Method} {c : Code} (l : Launch) {b L : Nat} {xs : Nat → Int32} {dC : Nat → ClassId} {dI : Nat → Nat → Nat} {cs : Nat → ClassId} {tt : Nat} {adx adm : Nat → Nat} {i : Int32} (F1 : lw_F p s m meth c b L xs dC dI cs tt) {mux mum : Nat → Nat → Int32} {H : Heap} {locs : List Loc} {ls : Array Slot} (J0 : lw_J s b dC dI cs adx adm i mux mum H locs ls) (hL : L ≤ 384) (hi : 0 ≤ i.toInt ∧ i.toInt + 6 ≤ L) (KE : ∀ (mux mum : Nat → Nat → Int32) (H : Heap) (locs : List Loc) (ls : Array Slot), lw_J s b dC dI cs adx adm i mux mum H locs ls → W p l e room_1 s m #[Value.ref b] below meth c H locs 178 3099 (lw_Z below #[Value.ref b] s) (F0 m 1641 ls [])) : W p l e room_1 s m #[Value.ref b] below meth c H locs 178 3099 (lw_Z below #[Value.ref b] s) (F0 m 1365 ls []) := by
  have F2 := F1
  have J1 := J0
  obtain ⟨C0, hKx, hKm, hz, hks⟩ := F1
  obtain ⟨hx, hb, hr, hml, hown0, hts0, hX, hbl, hlocks, hgv⟩ := C0
  obtain ⟨okx, okm, hsim, hPx, hPm, hD, hS, hl⟩ := J0
  have okx0 := okx
  have okm0 := okm
  have hown : s.vm.findClass RL = some m.cls := hown0
  have hts := hts0
  have hbA : ¬ (fun q : Nat => s.heap.size ≤ q) b := Nat.not_le.mpr hbl
  have hA : ∀ q : Nat, s.heap.size ≤ q → (fun q : Nat => s.heap.size ≤ q) q := fun _ h => h
  refine lv_aload_n hx hb dL_law_1365 rfl (lv_at hl 2 rfl) ?_
  refine lv_aload_n hx hb dL_law_1366 rfl (lv_at hl 3 rfl) ?_
  refine lv_iload_n hx hb dL_law_1367 rfl (lv_at hl 0 rfl) ?_
  refine lv_iconst (v := 1) hx hb dL_law_1368 (by decide) ?_
  refine lv_iadd hx hb dL_law_1369 ?_
  refine lv_topi (fun t1 et1 => ?_)
  have at1 : t1.toInt = i.toInt + 1 := by rw [et1]; exact tI_add rfl (rfl : (1 : Int32).toInt = _) (by show _ ≤ i.toInt + (1 : Int); omega) (by show i.toInt + (1 : Int) < _; omega)
  refine va_sld hx hb hX hbl hbA hS (show vp_in t1 L from vi_of (by omega) (by omega)) dL_law_1370 ?_
  refine lv_topi (fun a1 ea1 => ?_)
  have hDx := dl_left hD
  have hDm := dl_right hD
  have hFx := fr_all hDx hS hA
  refine va_calli (va_runV (As := [.int a1]) (rest := []) ⟨hx, hb, hml, hown, hts⟩ (qx_gain l dC dI cs adx mux okx H hPx (hDx.weaken (fun _ _ _ _ => trivial)) a1) (cwV 1 hts (wL_V mw_4_150 mw_4_147 mw_4_148 mw_4_149 mw_1_1) rfl rfl rfl (by decide +kernel) ⟨Nat.le_of_ble_eq_true rfl, Nat.le_of_ble_eq_true rfl⟩) ⟨sz_c, va_recv hKx hPx (ci := 11) (q0 := 0) rfl (gX_0 cs adx mux), sz_m hKx hz⟩ rfl rfl hl.1 rfl (lv_room (Nat.le_of_ble_eq_true rfl)) dL_law_1371 ⟨Nat.le_of_ble_eq_true rfl, Nat.le_of_ble_eq_true rfl⟩) hS (fun q _ h => hFx q h) hFx (fun r1 xi1 t H1 locs ht hvm hw1 hB hz1 hk1 hS => ?_)
  obtain ⟨hfe1, okx, hw1, hkp1⟩ := hw1
  have hPx : va_P (dC, dI) vwCl (wR 157 adx (EX cs adx) xi1) H1 := by rw [← ht]; exact hB
  have hPm := kp_rest hD hPm hk1
  have hD : va_D (fun q : Nat => s.heap.size ≤ q) ((wR 157 adx (EX cs adx) xi1) ++ (wR 21 adm (EM cs adm) mum)) := wR_DD _ _ hD
  refine lv_pop hx hb dL_law_1374 rfl ?_
  refine lv_aload_n hx hb dL_law_1375 rfl (lv_at hl 1 rfl) ?_
  refine lv_aload_n hx hb dL_law_1376 rfl (lv_at hl 3 rfl) ?_
  refine lv_iload_n hx hb dL_law_1377 rfl (lv_at hl 0 rfl) ?_
  refine lv_iconst (v := 1) hx hb dL_law_1378 (by decide) ?_
  refine lv_iadd hx hb dL_law_1379 ?_
  refine lq_i t1 et1.symm ?_
  refine va_sld hx hb hX hbl hbA hS (show vp_in t1 L from vi_of (by omega) (by omega)) dL_law_1380 ?_
  refine lq_i a1 ea1.symm ?_
  have hDx := dl_left hD
  have hDm := dl_right hD
  have hFm := fr_all hDm hS hA
  refine va_calli (va_runV (As := [.int a1]) (rest := []) ⟨hx, hb, hml, hown, hts⟩ (qm_gain l dC dI cs adm mum okm H1 hPm (hDm.weaken (fun _ _ _ _ => trivial)) a1) (cwV 1 hts (wL_V mw_7_8 mw_7_5 mw_7_6 mw_7_7 mw_1_13) rfl rfl rfl (by decide +kernel) ⟨Nat.le_of_ble_eq_true rfl, Nat.le_of_ble_eq_true rfl⟩) ⟨sz_c, va_recv hKm hPm (ci := 12) (q0 := 0) rfl (gM_0 cs adm mum), sz_m hKm hz⟩ rfl rfl hl.1 rfl (lv_room (Nat.le_of_ble_eq_true rfl)) dL_law_1381 ⟨Nat.le_of_ble_eq_true rfl, Nat.le_of_ble_eq_true rfl⟩) hS (fun q _ h => hFm q h) hFm (fun r2 xi2 t H2 locs ht hvm hw2 hB hz1 hk1 hS => ?_)
  obtain ⟨hfe2, okm, hw2, hkp2⟩ := hw2
  have hPm : va_P (dC, dI) vwCl (wR 21 adm (EM cs adm) xi2) H2 := by rw [← ht]; exact hB
  have hPx := kp_rest (pm_D List.perm_append_comm hD) hPx hk1
  have hD : va_D (fun q : Nat => s.heap.size ≤ q) ((wR 157 adx (EX cs adx) xi1) ++ (wR 21 adm (EM cs adm) xi2)) := wR_DD _ _ hD
  refine lv_pop hx hb dL_law_1384 rfl ?_
  refine lv_goto (tgt := 1641) hx hb dL_law_1385 (by decide) ?_
  exact KE xi1 xi2 _ _ _ ⟨okx, okm, ⟨simT_keep (by decide) (by decide) hkp1 hkp2 hsim.1, core_keep okm0 (by decide) (by decide) hkp1 hkp2 hsim.2⟩, hPx, hPm, hD, hS, hl⟩
set_option maxHeartbeats 4000000 in
set_option maxRecDepth 100000 in
theorem le_38 {p : Program} {e : Env} {s : State} {m : MethodId} {below : List Frame} {meth : Method} {c : Code} (l : Launch) {b L : Nat} {xs : Nat → Int32} {dC : Nat → ClassId} {dI : Nat → Nat → Nat} {cs : Nat → ClassId} {tt : Nat} {adx adm : Nat → Nat} {i : Int32} (F1 : lw_F p s m meth c b L xs dC dI cs tt) {mux mum : Nat → Nat → Int32} {H : Heap} {locs : List Loc} {ls : Array Slot} (J0 : lw_J s b dC dI cs adx adm i mux mum H locs ls) (hL : L ≤ 384) (hi : 0 ≤ i.toInt ∧ i.toInt + 6 ≤ L) (KE : ∀ (mux mum : Nat → Nat → Int32) (H : Heap) (locs : List Loc) (ls : Array Slot), lw_J s b dC dI cs adx adm i mux mum H locs ls → W p l e room_1 s m #[Value.ref b] below meth c H locs 178 3099 (lw_Z below #[Value.ref b] s) (F0 m 1641 ls [])) : W p l e room_1 s m #[Value.ref b] below meth c H locs 178 3099 (lw_Z below #[Value.ref b] s) (F0 m 1388 ls []) := by
  have F2 := F1
  have J1 := J0
  obtain ⟨C0, hKx, hKm, hz, hks⟩ := F1
  obtain ⟨hx, hb, hr, hml, hown0, hts0, hX, hbl, hlocks, hgv⟩ := C0
  obtain ⟨okx, okm, hsim, hPx, hPm, hD, hS, hl⟩ := J0
  have okx0 := okx
  have okm0 := okm
  have hown : s.vm.findClass RL = some m.cls := hown0
  have hts := hts0
  have hbA : ¬ (fun q : Nat => s.heap.size ≤ q) b := Nat.not_le.mpr hbl
  have hA : ∀ q : Nat, s.heap.size ≤ q → (fun q : Nat => s.heap.size ≤ q) q := fun _ h => h
  refine lv_aload_n hx hb dL_law_1388 rfl (lv_at hl 2 rfl) ?_
  refine lv_aload_n hx hb dL_law_1389 rfl (lv_at hl 3 rfl) ?_
  refine lv_iload_n hx hb dL_law_1390 rfl (lv_at hl 0 rfl) ?_
  refine lv_iconst (v := 1) hx hb dL_law_1391 (by decide) ?_
  refine lv_iadd hx hb dL_law_1392 ?_
  refine lv_topi (fun t1 et1 => ?_)
  have at1 : t1.toInt = i.toInt + 1 := by rw [et1]; exact tI_add rfl (rfl : (1 : Int32).toInt = _) (by show _ ≤ i.toInt + (1 : Int); omega) (by show i.toInt + (1 : Int) < _; omega)
  refine va_sld hx hb hX hbl hbA hS (show vp_in t1 L from vi_of (by omega) (by omega)) dL_law_1393 ?_
  refine lv_topi (fun a1 ea1 => ?_)
  refine lv_aload_n hx hb dL_law_1394 rfl (lv_at hl 3 rfl) ?_
  refine lv_iload_n hx hb dL_law_1395 rfl (lv_at hl 0 rfl) ?_
  refine lv_iconst (v := 2) hx hb dL_law_1396 (by decide) ?_
  refine lv_iadd hx hb dL_law_1397 ?_
  refine lv_topi (fun t2 et2 => ?_)
  have at2 : t2.toInt = i.toInt + 2 := by rw [et2]; exact tI_add rfl (rfl : (2 : Int32).toInt = _) (by show _ ≤ i.toInt + (2 : Int); omega) (by show i.toInt + (2 : Int) < _; omega)
  refine va_sld hx hb hX hbl hbA hS (show vp_in t2 L from vi_of (by omega) (by omega)) dL_law_1398 ?_
  refine lv_topi (fun a2 ea2 => ?_)
  have hDx := dl_left hD
  have hDm := dl_right hD
  have hFx := fr_all hDx hS hA
  refine va_calli (va_runV (As := [.int a1, .int a2]) (rest := []) ⟨hx, hb, hml, hown, hts⟩ (qx_had l dC dI cs adx mux okx H hPx (hDx.weaken (fun _ _ _ _ => trivial)) a1 a2) (cwV 2 hts (wL_V mw_4_158 mw_4_155 mw_4_156 mw_4_157 mw_1_1) rfl rfl rfl (by decide +kernel) ⟨Nat.le_of_ble_eq_true rfl, Nat.le_of_ble_eq_true rfl⟩) ⟨sz_c, va_recv hKx hPx (ci := 11) (q0 := 0) rfl (gX_0 cs adx mux), sz_m hKx hz⟩ rfl rfl hl.1 rfl (lv_room (Nat.le_of_ble_eq_true rfl)) dL_law_1399 ⟨Nat.le_of_ble_eq_true rfl, Nat.le_of_ble_eq_true rfl⟩) hS (fun q _ h => hFx q h) hFx (fun r1 xi1 t H1 locs ht hvm hw1 hB hz1 hk1 hS => ?_)
  obtain ⟨okx, hw1, hkp1⟩ := hw1
  have hPx : va_P (dC, dI) vwCl (wR 157 adx (EX cs adx) xi1) H1 := by rw [← ht]; exact hB
  have hPm := kp_rest hD hPm hk1
  have hD : va_D (fun q : Nat => s.heap.size ≤ q) ((wR 157 adx (EX cs adx) xi1) ++ (wR 21 adm (EM cs adm) mum)) := wR_DD _ _ hD
  refine lv_pop hx hb dL_law_1402 rfl ?_
  refine lv_aload_n hx hb dL_law_1403 rfl (lv_at hl 1 rfl) ?_
  refine lv_aload_n hx hb dL_law_1404 rfl (lv_at hl 3 rfl) ?_
  refine lv_iload_n hx hb dL_law_1405 rfl (lv_at hl 0 rfl) ?_
  refine lv_iconst (v := 1) hx hb dL_law_1406 (by decide) ?_
  refine lv_iadd hx hb dL_law_1407 ?_
  refine lq_i t1 et1.symm ?_
  refine va_sld hx hb hX hbl hbA hS (show vp_in t1 L from vi_of (by omega) (by omega)) dL_law_1408 ?_
  refine lq_i a1 ea1.symm ?_
  refine lv_aload_n hx hb dL_law_1409 rfl (lv_at hl 3 rfl) ?_
  refine lv_iload_n hx hb dL_law_1410 rfl (lv_at hl 0 rfl) ?_
  refine lv_iconst (v := 2) hx hb dL_law_1411 (by decide) ?_
  refine lv_iadd hx hb dL_law_1412 ?_
  refine lq_i t2 et2.symm ?_
  refine va_sld hx hb hX hbl hbA hS (show vp_in t2 L from vi_of (by omega) (by omega)) dL_law_1413 ?_
  refine lq_i a2 ea2.symm ?_
  have hDx := dl_left hD
  have hDm := dl_right hD
  have hFm := fr_all hDm hS hA
  refine va_calli (va_runV (As := [.int a1, .int a2]) (rest := []) ⟨hx, hb, hml, hown, hts⟩ (qm_had l dC dI cs adm mum okm H1 hPm (hDm.weaken (fun _ _ _ _ => trivial)) a1 a2) (cwV 2 hts (wL_V mw_7_16 mw_7_13 mw_7_14 mw_7_15 mw_1_13) rfl rfl rfl (by decide +kernel) ⟨Nat.le_of_ble_eq_true rfl, Nat.le_of_ble_eq_true rfl⟩) ⟨sz_c, va_recv hKm hPm (ci := 12) (q0 := 0) rfl (gM_0 cs adm mum), sz_m hKm hz⟩ rfl rfl hl.1 rfl (lv_room (Nat.le_of_ble_eq_true rfl)) dL_law_1414 ⟨Nat.le_of_ble_eq_true rfl, Nat.le_of_ble_eq_true rfl⟩) hS (fun q _ h => hFm q h) hFm (fun r2 xi2 t H2 locs ht hvm hw2 hB hz1 hk1 hS => ?_)
  obtain ⟨okm, hw2, hkp2⟩ := hw2
  have hPm : va_P (dC, dI) vwCl (wR 21 adm (EM cs adm) xi2) H2 := by rw [← ht]; exact hB
  have hPx := kp_rest (pm_D List.perm_append_comm hD) hPx hk1
  have hD : va_D (fun q : Nat => s.heap.size ≤ q) ((wR 157 adx (EX cs adx) xi1) ++ (wR 21 adm (EM cs adm) xi2)) := wR_DD _ _ hD
  refine lv_pop hx hb dL_law_1417 rfl ?_
  refine lv_goto (tgt := 1641) hx hb dL_law_1418 (by decide) ?_
  exact KE xi1 xi2 _ _ _ ⟨okx, okm, ⟨simT_keep (by decide) (by decide) hkp1 hkp2 hsim.1, core_keep okm0 (by decide) (by decide) hkp1 hkp2 hsim.2⟩, hPx, hPm, hD, hS, hl⟩
