set_option maxHeartbeats 4000000 in
set_option maxRecDepth 100000 in
theorem le_13 {p : Program} {e : Env} {s : State} {m : MethodId} {below : List Frame} {meth : Method} {c : Code} (l : Launch) {b L : Nat} {xs : Nat → Int32} {dC : Nat → ClassId} {dI : Nat → Nat → Nat} {cs : Nat → ClassId} {tt : Nat} {adx adm : Nat → Nat} {i : Int32} (F1 : lw_F p s m meth c b L xs dC dI cs tt) {mux mum : Nat → Nat → Int32} {H : Heap} {locs : List Loc} {ls : Array Slot} (J0 : lw_J s b dC dI cs adx adm i mux mum H locs ls) (hL : L ≤ 384) (hi : 0 ≤ i.toInt ∧ i.toInt + 6 ≤ L) (KE : ∀ (mux mum : Nat → Nat → Int32) (H : Heap) (locs : List Loc) (ls : Array Slot), lw_J s b dC dI cs adx adm i mux mum H locs ls → W p l e room_1 s m #[Value.ref b] below meth c H locs 178 3099 (lw_Z below #[Value.ref b] s) (F0 m 1641 ls [])) : W p l e room_1 s m #[Value.ref b] below meth c H locs 178 3099 (lw_Z below #[Value.ref b] s) (F0 m 683 ls []) := by
  have F2 := F1
  have J1 := J0
  obtain ⟨C0, hKx, hKm, hz, hks⟩ := F1
  obtain ⟨hx, hb, hr, hml, hown0, hts0, hX, hbl, hlocks, hgv⟩ := C0
  obtain ⟨okx, okm, hsim, hPx, hPm, hD, hS, hl⟩ := J0
  have okx0 := okx
  have okm0 := okm
  have hown : s.vm.findClass RL = some m.cls := hown0
  have hts := hts0
  have hbA : ¬ (fun q : Nat => s.heap.size ≤ q) b := Nat.not_le.mpr hbl
  have hA : ∀ q : Nat, s.heap.size ≤ q → (fun q : Nat => s.heap.size ≤ q) q := fun _ h => h
  refine lv_aload_n hx hb dL_law_683 rfl (lv_at hl 2 rfl) ?_
  refine lv_aload_n hx hb dL_law_684 rfl (lv_at hl 3 rfl) ?_
  refine lv_iload_n hx hb dL_law_685 rfl (lv_at hl 0 rfl) ?_
  refine lv_iconst (v := 1) hx hb dL_law_686 (by decide) ?_
  refine lv_iadd hx hb dL_law_687 ?_
  refine lv_topi (fun t1 et1 => ?_)
  have at1 : t1.toInt = i.toInt + 1 := by rw [et1]; exact tI_add rfl (rfl : (1 : Int32).toInt = _) (by show _ ≤ i.toInt + (1 : Int); omega) (by show i.toInt + (1 : Int) < _; omega)
  refine va_sld hx hb hX hbl hbA hS (show vp_in t1 L from vi_of (by omega) (by omega)) dL_law_688 ?_
  refine lv_topi (fun a1 ea1 => ?_)
  refine lv_aload_n hx hb dL_law_689 rfl (lv_at hl 3 rfl) ?_
  refine lv_iload_n hx hb dL_law_690 rfl (lv_at hl 0 rfl) ?_
  refine lv_iconst (v := 2) hx hb dL_law_691 (by decide) ?_
  refine lv_iadd hx hb dL_law_692 ?_
  refine lv_topi (fun t2 et2 => ?_)
  have at2 : t2.toInt = i.toInt + 2 := by rw [et2]; exact tI_add rfl (rfl : (2 : Int32).toInt = _) (by show _ ≤ i.toInt + (2 : Int); omega) (by show i.toInt + (2 : Int) < _; omega)
  refine va_sld hx hb hX hbl hbA hS (show vp_in t2 L from vi_of (by omega) (by omega)) dL_law_693 ?_
  refine lv_topi (fun a2 ea2 => ?_)
  have hDx := dl_left hD
  have hDm := dl_right hD
  have hFx := fr_all hDx hS hA
  refine va_calli (va_runV (As := [.int a1, .int a2]) (rest := []) ⟨hx, hb, hml, hown, hts⟩ (qx_snow l dC dI cs adx mux okx H hPx (hDx.weaken (fun _ _ _ _ => trivial)) a1 a2) (cwV 2 hts (wL_V mw_3_128 mw_3_125 mw_3_126 mw_3_127 mw_1_1) rfl rfl rfl (by decide +kernel) ⟨Nat.le_of_ble_eq_true rfl, Nat.le_of_ble_eq_true rfl⟩) ⟨sz_c, va_recv hKx hPx (ci := 11) (q0 := 0) rfl (gX_0 cs adx mux), sz_m hKx hz⟩ rfl rfl hl.1 rfl (lv_room (Nat.le_of_ble_eq_true rfl)) dL_law_694 ⟨Nat.le_of_ble_eq_true rfl, Nat.le_of_ble_eq_true rfl⟩) hS (fun q _ h => hFx q h) hFx (fun r1 xi1 t H1 locs ht hvm hw1 hB hz1 hk1 hS => ?_)
  obtain ⟨hfe1, okx, hw1, hkp1⟩ := hw1
  have hPx : va_P (dC, dI) vwCl (wR 157 adx (EX cs adx) xi1) H1 := by rw [← ht]; exact hB
  have hPm := kp_rest hD hPm hk1
  have hD : va_D (fun q : Nat => s.heap.size ≤ q) ((wR 157 adx (EX cs adx) xi1) ++ (wR 21 adm (EM cs adm) mum)) := wR_DD _ _ hD
  refine lv_pop hx hb dL_law_697 rfl ?_
  refine lv_aload_n hx hb dL_law_698 rfl (lv_at hl 1 rfl) ?_
  refine lv_aload_n hx hb dL_law_699 rfl (lv_at hl 3 rfl) ?_
  refine lv_iload_n hx hb dL_law_700 rfl (lv_at hl 0 rfl) ?_
  refine lv_iconst (v := 1) hx hb dL_law_701 (by decide) ?_
  refine lv_iadd hx hb dL_law_702 ?_
  refine lq_i t1 et1.symm ?_
  refine va_sld hx hb hX hbl hbA hS (show vp_in t1 L from vi_of (by omega) (by omega)) dL_law_703 ?_
  refine lq_i a1 ea1.symm ?_
  refine lv_aload_n hx hb dL_law_704 rfl (lv_at hl 3 rfl) ?_
  refine lv_iload_n hx hb dL_law_705 rfl (lv_at hl 0 rfl) ?_
  refine lv_iconst (v := 2) hx hb dL_law_706 (by decide) ?_
  refine lv_iadd hx hb dL_law_707 ?_
  refine lq_i t2 et2.symm ?_
  refine va_sld hx hb hX hbl hbA hS (show vp_in t2 L from vi_of (by omega) (by omega)) dL_law_708 ?_
  refine lq_i a2 ea2.symm ?_
  have hDx := dl_left hD
  have hDm := dl_right hD
  have hFm := fr_all hDm hS hA
  refine va_calli (va_runV (As := [.int a1, .int a2]) (rest := []) ⟨hx, hb, hml, hown, hts⟩ (qm_snow l dC dI cs adm mum okm H1 hPm (hDm.weaken (fun _ _ _ _ => trivial)) a1 a2) (cwV 2 hts (wL_V mw_6_86 mw_6_83 mw_6_84 mw_6_85 mw_1_13) rfl rfl rfl (by decide +kernel) ⟨Nat.le_of_ble_eq_true rfl, Nat.le_of_ble_eq_true rfl⟩) ⟨sz_c, va_recv hKm hPm (ci := 12) (q0 := 0) rfl (gM_0 cs adm mum), sz_m hKm hz⟩ rfl rfl hl.1 rfl (lv_room (Nat.le_of_ble_eq_true rfl)) dL_law_709 ⟨Nat.le_of_ble_eq_true rfl, Nat.le_of_ble_eq_true rfl⟩) hS (fun q _ h => hFm q h) hFm (fun r2 xi2 t H2 locs ht hvm hw2 hB hz1 hk1 hS => ?_)
  obtain ⟨hfe2, okm, hw2, hkp2⟩ := hw2
  have hPm : va_P (dC, dI) vwCl (wR 21 adm (EM cs adm) xi2) H2 := by rw [← ht]; exact hB
  have hPx := kp_rest (pm_D List.perm_append_comm hD) hPx hk1
  have hD : va_D (fun q : Nat => s.heap.size ≤ q) ((wR 157 adx (EX cs adx) xi1) ++ (wR 21 adm (EM cs adm) xi2)) := wR_DD _ _ hD
  refine lv_pop hx hb dL_law_712 rfl ?_
  refine lv_goto (tgt := 1641) hx hb dL_law_713 (by decide) ?_
  exact KE xi1 xi2 _ _ _ ⟨okx, okm, ⟨simT_keep (by decide) (by decide) hkp1 hkp2 hsim.1, (snow_rel okm0 hsim.2 hfe1 hfe2).2⟩, hPx, hPm, hD, hS, hl⟩
set_option maxHeartbeats 4000000 in
set_option maxRecDepth 100000 in
theorem le_14 {p : Program} {e : Env} {s : State} {m : MethodId} {below : List Frame} {meth : Method} {c : Code} (l : Launch) {b L : Nat} {xs : Nat → Int32} {dC : Nat → ClassId} {dI : Nat → Nat → Nat} {cs : Nat → ClassId} {tt : Nat} {adx adm : Nat → Nat} {i : Int32} (F1 : lw_F p s m meth c b L xs dC dI cs tt) {mux mum : Nat → Nat → Int32} {H : Heap} {locs : List Loc} {ls : Array Slot} (J0 : lw_J s b dC dI cs adx adm i mux mum H locs ls) (hL : L ≤ 384) (hi : 0 ≤ i.toInt ∧ i.toInt + 6 ≤ L) (KE : ∀ (mux mum : Nat → Nat → Int32) (H : Heap) (locs : List Loc) (ls : Array Slot), lw_J s b dC dI cs adx adm i mux mum H locs ls → W p l e room_1 s m #[Value.ref b] below meth c H locs 178 3099 (lw_Z below #[Value.ref b] s) (F0 m 1641 ls [])) : W p l e room_1 s m #[Value.ref b] below meth c H locs 178 3099 (lw_Z below #[Value.ref b] s) (F0 m 716 ls []) := by
  have F2 := F1
  have J1 := J0
  obtain ⟨C0, hKx, hKm, hz, hks⟩ := F1
  obtain ⟨hx, hb, hr, hml, hown0, hts0, hX, hbl, hlocks, hgv⟩ := C0
  obtain ⟨okx, okm, hsim, hPx, hPm, hD, hS, hl⟩ := J0
  have okx0 := okx
  have okm0 := okm
  have hown : s.vm.findClass RL = some m.cls := hown0
  have hts := hts0
  have hbA : ¬ (fun q : Nat => s.heap.size ≤ q) b := Nat.not_le.mpr hbl
  have hA : ∀ q : Nat, s.heap.size ≤ q → (fun q : Nat => s.heap.size ≤ q) q := fun _ h => h
  refine lv_aload_n hx hb dL_law_716 rfl (lv_at hl 2 rfl) ?_
  refine lv_aload_n hx hb dL_law_717 rfl (lv_at hl 3 rfl) ?_
  refine lv_iload_n hx hb dL_law_718 rfl (lv_at hl 0 rfl) ?_
  refine lv_iconst (v := 1) hx hb dL_law_719 (by decide) ?_
  refine lv_iadd hx hb dL_law_720 ?_
  refine lv_topi (fun t1 et1 => ?_)
  have at1 : t1.toInt = i.toInt + 1 := by rw [et1]; exact tI_add rfl (rfl : (1 : Int32).toInt = _) (by show _ ≤ i.toInt + (1 : Int); omega) (by show i.toInt + (1 : Int) < _; omega)
  refine va_sld hx hb hX hbl hbA hS (show vp_in t1 L from vi_of (by omega) (by omega)) dL_law_721 ?_
  refine lv_topi (fun a1 ea1 => ?_)
  refine lv_aload_n hx hb dL_law_722 rfl (lv_at hl 3 rfl) ?_
  refine lv_iload_n hx hb dL_law_723 rfl (lv_at hl 0 rfl) ?_
  refine lv_iconst (v := 2) hx hb dL_law_724 (by decide) ?_
  refine lv_iadd hx hb dL_law_725 ?_
  refine lv_topi (fun t2 et2 => ?_)
  have at2 : t2.toInt = i.toInt + 2 := by rw [et2]; exact tI_add rfl (rfl : (2 : Int32).toInt = _) (by show _ ≤ i.toInt + (2 : Int); omega) (by show i.toInt + (2 : Int) < _; omega)
  refine va_sld hx hb hX hbl hbA hS (show vp_in t2 L from vi_of (by omega) (by omega)) dL_law_726 ?_
  refine lv_topi (fun a2 ea2 => ?_)
  have hDx := dl_left hD
  have hDm := dl_right hD
  have hFx := fr_all hDx hS hA
  refine va_calli (va_runV (As := [.int a1, .int a2]) (rest := []) ⟨hx, hb, hml, hown, hts⟩ (qx_asks l dC dI cs adx mux okx H hPx (hDx.weaken (fun _ _ _ _ => trivial)) a1 a2) (cwV 2 hts (wL_V mw_3_132 mw_3_129 mw_3_130 mw_3_131 mw_1_1) rfl rfl rfl (by decide +kernel) ⟨Nat.le_of_ble_eq_true rfl, Nat.le_of_ble_eq_true rfl⟩) ⟨sz_c, va_recv hKx hPx (ci := 11) (q0 := 0) rfl (gX_0 cs adx mux), sz_m hKx hz⟩ rfl rfl hl.1 rfl (lv_room (Nat.le_of_ble_eq_true rfl)) dL_law_727 ⟨Nat.le_of_ble_eq_true rfl, Nat.le_of_ble_eq_true rfl⟩) hS (fun q _ h => hFx q h) hFx (fun r1 xi1 t H1 locs ht hvm hw1 hB hz1 hk1 hS => ?_)
  obtain ⟨hfe1, okx, hw1, hkp1⟩ := hw1
  have hPx : va_P (dC, dI) vwCl (wR 157 adx (EX cs adx) xi1) H1 := by rw [← ht]; exact hB
  have hPm := kp_rest hD hPm hk1
  have hD : va_D (fun q : Nat => s.heap.size ≤ q) ((wR 157 adx (EX cs adx) xi1) ++ (wR 21 adm (EM cs adm) mum)) := wR_DD _ _ hD
  refine lv_pop hx hb dL_law_730 rfl ?_
  refine lv_aload_n hx hb dL_law_731 rfl (lv_at hl 1 rfl) ?_
  refine lv_aload_n hx hb dL_law_732 rfl (lv_at hl 3 rfl) ?_
  refine lv_iload_n hx hb dL_law_733 rfl (lv_at hl 0 rfl) ?_
  refine lv_iconst (v := 1) hx hb dL_law_734 (by decide) ?_
  refine lv_iadd hx hb dL_law_735 ?_
  refine lq_i t1 et1.symm ?_
  refine va_sld hx hb hX hbl hbA hS (show vp_in t1 L from vi_of (by omega) (by omega)) dL_law_736 ?_
  refine lq_i a1 ea1.symm ?_
  refine lv_aload_n hx hb dL_law_737 rfl (lv_at hl 3 rfl) ?_
  refine lv_iload_n hx hb dL_law_738 rfl (lv_at hl 0 rfl) ?_
  refine lv_iconst (v := 2) hx hb dL_law_739 (by decide) ?_
  refine lv_iadd hx hb dL_law_740 ?_
  refine lq_i t2 et2.symm ?_
  refine va_sld hx hb hX hbl hbA hS (show vp_in t2 L from vi_of (by omega) (by omega)) dL_law_741 ?_
  refine lq_i a2 ea2.symm ?_
  have hDx := dl_left hD
  have hDm := dl_right hD
  have hFm := fr_all hDm hS hA
  refine va_calli (va_runV (As := [.int a1, .int a2]) (rest := []) ⟨hx, hb, hml, hown, hts⟩ (qm_asks l dC dI cs adm mum okm H1 hPm (hDm.weaken (fun _ _ _ _ => trivial)) a1 a2) (cwV 2 hts (wL_V mw_6_90 mw_6_87 mw_6_88 mw_6_89 mw_1_13) rfl rfl rfl (by decide +kernel) ⟨Nat.le_of_ble_eq_true rfl, Nat.le_of_ble_eq_true rfl⟩) ⟨sz_c, va_recv hKm hPm (ci := 12) (q0 := 0) rfl (gM_0 cs adm mum), sz_m hKm hz⟩ rfl rfl hl.1 rfl (lv_room (Nat.le_of_ble_eq_true rfl)) dL_law_742 ⟨Nat.le_of_ble_eq_true rfl, Nat.le_of_ble_eq_true rfl⟩) hS (fun q _ h => hFm q h) hFm (fun r2 xi2 t H2 locs ht hvm hw2 hB hz1 hk1 hS => ?_)
  obtain ⟨hfe2, okm, hw2, hkp2⟩ := hw2
  have hPm : va_P (dC, dI) vwCl (wR 21 adm (EM cs adm) xi2) H2 := by rw [← ht]; exact hB
  have hPx := kp_rest (pm_D List.perm_append_comm hD) hPx hk1
  have hD : va_D (fun q : Nat => s.heap.size ≤ q) ((wR 157 adx (EX cs adx) xi1) ++ (wR 21 adm (EM cs adm) xi2)) := wR_DD _ _ hD
  refine lv_pop hx hb dL_law_745 rfl ?_
  refine lv_goto (tgt := 1641) hx hb dL_law_746 (by decide) ?_
  exact KE xi1 xi2 _ _ _ ⟨okx, okm, ⟨simT_keep (by decide) (by decide) hkp1 hkp2 hsim.1, core_keep okm0 (by decide) (by decide) hkp1 hkp2 hsim.2⟩, hPx, hPm, hD, hS, hl⟩
set_option maxHeartbeats 4000000 in
set_option maxRecDepth 100000 in
theorem le_15 {p : Program} {e : Env} {s : State} {m : MethodId} {below : List Frame} {meth : Method} {c : Code} (l : Launch) {b L : Nat} {xs : Nat → Int32} {dC : Nat → ClassId} {dI : Nat → Nat → Nat} {cs : Nat → ClassId} {tt : Nat} {adx adm : Nat → Nat} {i : Int32} (F1 : lw_F p s m meth c b L xs dC dI cs tt) {mux mum : Nat → Nat → Int32} {H : Heap} {locs : List Loc} {ls : Array Slot} (J0 : lw_J s b dC dI cs adx adm i mux mum H locs ls) (hL : L ≤ 384) (hi : 0 ≤ i.toInt ∧ i.toInt + 6 ≤ L) (KE : ∀ (mux mum : Nat → Nat → Int32) (H : Heap) (locs : List Loc) (ls : Array Slot), lw_J s b dC dI cs adx adm i mux mum H locs ls → W p l e room_1 s m #[Value.ref b] below meth c H locs 178 3099 (lw_Z below #[Value.ref b] s) (F0 m 1641 ls [])) : W p l e room_1 s m #[Value.ref b] below meth c H locs 178 3099 (lw_Z below #[Value.ref b] s) (F0 m 749 ls []) := by
  have F2 := F1
  have J1 := J0
  obtain ⟨C0, hKx, hKm, hz, hks⟩ := F1
  obtain ⟨hx, hb, hr, hml, hown0, hts0, hX, hbl, hlocks, hgv⟩ := C0
  obtain ⟨okx, okm, hsim, hPx, hPm, hD, hS, hl⟩ := J0
  have okx0 := okx
  have okm0 := okm
  have hown : s.vm.findClass RL = some m.cls := hown0
  have hts := hts0
  have hbA : ¬ (fun q : Nat => s.heap.size ≤ q) b := Nat.not_le.mpr hbl
  have hA : ∀ q : Nat, s.heap.size ≤ q → (fun q : Nat => s.heap.size ≤ q) q := fun _ h => h
  refine lv_aload_n hx hb dL_law_749 rfl (lv_at hl 2 rfl) ?_
  refine lv_aload_n hx hb dL_law_750 rfl (lv_at hl 3 rfl) ?_
  refine lv_iload_n hx hb dL_law_751 rfl (lv_at hl 0 rfl) ?_
  refine lv_iconst (v := 1) hx hb dL_law_752 (by decide) ?_
  refine lv_iadd hx hb dL_law_753 ?_
  refine lv_topi (fun t1 et1 => ?_)
  have at1 : t1.toInt = i.toInt + 1 := by rw [et1]; exact tI_add rfl (rfl : (1 : Int32).toInt = _) (by show _ ≤ i.toInt + (1 : Int); omega) (by show i.toInt + (1 : Int) < _; omega)
  refine va_sld hx hb hX hbl hbA hS (show vp_in t1 L from vi_of (by omega) (by omega)) dL_law_754 ?_
  refine lv_topi (fun a1 ea1 => ?_)
  have hDx := dl_left hD
  have hDm := dl_right hD
  have hFx := fr_all hDx hS hA
  refine va_calli (va_runV (As := [.int a1]) (rest := []) ⟨hx, hb, hml, hown, hts⟩ (qx_beside l dC dI cs adx mux okx H hPx (hDx.weaken (fun _ _ _ _ => trivial)) a1) (cwV 1 hts (wL_V mw_3_136 mw_3_133 mw_3_134 mw_3_135 mw_1_1) rfl rfl rfl (by decide +kernel) ⟨Nat.le_of_ble_eq_true rfl, Nat.le_of_ble_eq_true rfl⟩) ⟨sz_c, va_recv hKx hPx (ci := 11) (q0 := 0) rfl (gX_0 cs adx mux), sz_m hKx hz⟩ rfl rfl hl.1 rfl (lv_room (Nat.le_of_ble_eq_true rfl)) dL_law_755 ⟨Nat.le_of_ble_eq_true rfl, Nat.le_of_ble_eq_true rfl⟩) hS (fun q _ h => hFx q h) hFx (fun r1 xi1 t H1 locs ht hvm hw1 hB hz1 hk1 hS => ?_)
  obtain ⟨hfe1, okx, hw1, hkp1⟩ := hw1
  have hPx : va_P (dC, dI) vwCl (wR 157 adx (EX cs adx) xi1) H1 := by rw [← ht]; exact hB
  have hPm := kp_rest hD hPm hk1
  have hD : va_D (fun q : Nat => s.heap.size ≤ q) ((wR 157 adx (EX cs adx) xi1) ++ (wR 21 adm (EM cs adm) mum)) := wR_DD _ _ hD
  refine lv_pop hx hb dL_law_758 rfl ?_
  refine lv_aload_n hx hb dL_law_759 rfl (lv_at hl 1 rfl) ?_
  refine lv_aload_n hx hb dL_law_760 rfl (lv_at hl 3 rfl) ?_
  refine lv_iload_n hx hb dL_law_761 rfl (lv_at hl 0 rfl) ?_
  refine lv_iconst (v := 1) hx hb dL_law_762 (by decide) ?_
  refine lv_iadd hx hb dL_law_763 ?_
  refine lq_i t1 et1.symm ?_
  refine va_sld hx hb hX hbl hbA hS (show vp_in t1 L from vi_of (by omega) (by omega)) dL_law_764 ?_
  refine lq_i a1 ea1.symm ?_
  have hDx := dl_left hD
  have hDm := dl_right hD
  have hFm := fr_all hDm hS hA
  refine va_calli (va_runV (As := [.int a1]) (rest := []) ⟨hx, hb, hml, hown, hts⟩ (qm_beside l dC dI cs adm mum okm H1 hPm (hDm.weaken (fun _ _ _ _ => trivial)) a1) (cwV 1 hts (wL_V mw_6_94 mw_6_91 mw_6_92 mw_6_93 mw_1_13) rfl rfl rfl (by decide +kernel) ⟨Nat.le_of_ble_eq_true rfl, Nat.le_of_ble_eq_true rfl⟩) ⟨sz_c, va_recv hKm hPm (ci := 12) (q0 := 0) rfl (gM_0 cs adm mum), sz_m hKm hz⟩ rfl rfl hl.1 rfl (lv_room (Nat.le_of_ble_eq_true rfl)) dL_law_765 ⟨Nat.le_of_ble_eq_true rfl, Nat.le_of_ble_eq_true rfl⟩) hS (fun q _ h => hFm q h) hFm (fun r2 xi2 t H2 locs ht hvm hw2 hB hz1 hk1 hS => ?_)
  obtain ⟨hfe2, okm, hw2, hkp2⟩ := hw2
  have hPm : va_P (dC, dI) vwCl (wR 21 adm (EM cs adm) xi2) H2 := by rw [← ht]; exact hB
  have hPx := kp_rest (pm_D List.perm_append_comm hD) hPx hk1
  have hD : va_D (fun q : Nat => s.heap.size ≤ q) ((wR 157 adx (EX cs adx) xi1) ++ (wR 21 adm (EM cs adm) xi2)) := wR_DD _ _ hD
  refine lv_pop hx hb dL_law_768 rfl ?_
  refine lv_goto (tgt := 1641) hx hb dL_law_769 (by decide) ?_
  exact KE xi1 xi2 _ _ _ ⟨okx, okm, ⟨simT_keep (by decide) (by decide) hkp1 hkp2 hsim.1, core_keep okm0 (by decide) (by decide) hkp1 hkp2 hsim.2⟩, hPx, hPm, hD, hS, hl⟩
set_option maxHeartbeats 4000000 in
set_option maxRecDepth 100000 in
theorem le_16 {p : Program} {e : Env} {s : State} {m : MethodId} {below : List Frame} {meth : Method} {c : Code} (l : Launch) {b L : Nat} {xs : Nat → Int32} {dC : Nat → ClassId} {dI : Nat → Nat → Nat} {cs : Nat → ClassId} {tt : Nat} {adx adm : Nat → Nat} {i : Int32} (F1 : lw_F p s m meth c b L xs dC dI cs tt) {mux mum : Nat → Nat → Int32} {H : Heap} {locs : List Loc} {ls : Array Slot} (J0 : lw_J s b dC dI cs adx adm i mux mum H locs ls) (hL : L ≤ 384) (hi : 0 ≤ i.toInt ∧ i.toInt + 6 ≤ L) (KE : ∀ (mux mum : Nat → Nat → Int32) (H : Heap) (locs : List Loc) (ls : Array Slot), lw_J s b dC dI cs adx adm i mux mum H locs ls → W p l e room_1 s m #[Value.ref b] below meth c H locs 178 3099 (lw_Z below #[Value.ref b] s) (F0 m 1641 ls [])) : W p l e room_1 s m #[Value.ref b] below meth c H locs 178 3099 (lw_Z below #[Value.ref b] s) (F0 m 772 ls []) := by
  have F2 := F1
  have J1 := J0
  obtain ⟨C0, hKx, hKm, hz, hks⟩ := F1
  obtain ⟨hx, hb, hr, hml, hown0, hts0, hX, hbl, hlocks, hgv⟩ := C0
  obtain ⟨okx, okm, hsim, hPx, hPm, hD, hS, hl⟩ := J0
  have okx0 := okx
  have okm0 := okm
  have hown : s.vm.findClass RL = some m.cls := hown0
  have hts := hts0
  have hbA : ¬ (fun q : Nat => s.heap.size ≤ q) b := Nat.not_le.mpr hbl
  have hA : ∀ q : Nat, s.heap.size ≤ q → (fun q : Nat => s.heap.size ≤ q) q := fun _ h => h
  refine lv_aload_n hx hb dL_law_772 rfl (lv_at hl 2 rfl) ?_
  refine lv_aload_n hx hb dL_law_773 rfl (lv_at hl 3 rfl) ?_
  refine lv_iload_n hx hb dL_law_774 rfl (lv_at hl 0 rfl) ?_
  refine lv_iconst (v := 1) hx hb dL_law_775 (by decide) ?_
  refine lv_iadd hx hb dL_law_776 ?_
  refine lv_topi (fun t1 et1 => ?_)
  have at1 : t1.toInt = i.toInt + 1 := by rw [et1]; exact tI_add rfl (rfl : (1 : Int32).toInt = _) (by show _ ≤ i.toInt + (1 : Int); omega) (by show i.toInt + (1 : Int) < _; omega)
  refine va_sld hx hb hX hbl hbA hS (show vp_in t1 L from vi_of (by omega) (by omega)) dL_law_777 ?_
  refine lv_topi (fun a1 ea1 => ?_)
  refine lv_aload_n hx hb dL_law_778 rfl (lv_at hl 3 rfl) ?_
  refine lv_iload_n hx hb dL_law_779 rfl (lv_at hl 0 rfl) ?_
  refine lv_iconst (v := 2) hx hb dL_law_780 (by decide) ?_
  refine lv_iadd hx hb dL_law_781 ?_
  refine lv_topi (fun t2 et2 => ?_)
  have at2 : t2.toInt = i.toInt + 2 := by rw [et2]; exact tI_add rfl (rfl : (2 : Int32).toInt = _) (by show _ ≤ i.toInt + (2 : Int); omega) (by show i.toInt + (2 : Int) < _; omega)
  refine va_sld hx hb hX hbl hbA hS (show vp_in t2 L from vi_of (by omega) (by omega)) dL_law_782 ?_
  refine lv_topi (fun a2 ea2 => ?_)
  refine lv_aload_n hx hb dL_law_783 rfl (lv_at hl 3 rfl) ?_
  refine lv_iload_n hx hb dL_law_784 rfl (lv_at hl 0 rfl) ?_
  refine lv_iconst (v := 3) hx hb dL_law_785 (by decide) ?_
  refine lv_iadd hx hb dL_law_786 ?_
  refine lv_topi (fun t3 et3 => ?_)
  have at3 : t3.toInt = i.toInt + 3 := by rw [et3]; exact tI_add rfl (rfl : (3 : Int32).toInt = _) (by show _ ≤ i.toInt + (3 : Int); omega) (by show i.toInt + (3 : Int) < _; omega)
  refine va_sld hx hb hX hbl hbA hS (show vp_in t3 L from vi_of (by omega) (by omega)) dL_law_787 ?_
  refine lv_topi (fun a3 ea3 => ?_)
  refine lv_aload_n hx hb dL_law_788 rfl (lv_at hl 3 rfl) ?_
  refine lv_iload_n hx hb dL_law_789 rfl (lv_at hl 0 rfl) ?_
  refine lv_iconst (v := 4) hx hb dL_law_790 (by decide) ?_
  refine lv_iadd hx hb dL_law_791 ?_
  refine lv_topi (fun t4 et4 => ?_)
  have at4 : t4.toInt = i.toInt + 4 := by rw [et4]; exact tI_add rfl (rfl : (4 : Int32).toInt = _) (by show _ ≤ i.toInt + (4 : Int); omega) (by show i.toInt + (4 : Int) < _; omega)
  refine va_sld hx hb hX hbl hbA hS (show vp_in t4 L from vi_of (by omega) (by omega)) dL_law_792 ?_
  refine lv_topi (fun a4 ea4 => ?_)
  have hDx := dl_left hD
  have hDm := dl_right hD
  have hFx := fr_all hDx hS hA
  refine va_calli (va_runV (As := [.int a1, .int a2, .int a3, .int a4]) (rest := []) ⟨hx, hb, hml, hown, hts⟩ (qx_send l dC dI cs adx mux okx H hPx (hDx.weaken (fun _ _ _ _ => trivial)) a1 a2 a3 a4) (cwV 4 hts (wL_V mw_3_141 mw_3_138 mw_3_139 mw_3_140 mw_1_1) rfl rfl rfl (by decide +kernel) ⟨Nat.le_of_ble_eq_true rfl, Nat.le_of_ble_eq_true rfl⟩) ⟨sz_c, va_recv hKx hPx (ci := 11) (q0 := 0) rfl (gX_0 cs adx mux), sz_m hKx hz⟩ rfl rfl hl.1 rfl (lv_room (Nat.le_of_ble_eq_true rfl)) dL_law_793 ⟨Nat.le_of_ble_eq_true rfl, Nat.le_of_ble_eq_true rfl⟩) hS (fun q _ h => hFx q h) hFx (fun r1 xi1 t H1 locs ht hvm hw1 hB hz1 hk1 hS => ?_)
  obtain ⟨hfe1, okx, hw1, hkp1⟩ := hw1
  have hPx : va_P (dC, dI) vwCl (wR 157 adx (EX cs adx) xi1) H1 := by rw [← ht]; exact hB
  have hPm := kp_rest hD hPm hk1
  have hD : va_D (fun q : Nat => s.heap.size ≤ q) ((wR 157 adx (EX cs adx) xi1) ++ (wR 21 adm (EM cs adm) mum)) := wR_DD _ _ hD
  refine lv_aload_n hx hb dL_law_796 rfl (lv_at hl 1 rfl) ?_
  refine lv_aload_n hx hb dL_law_797 rfl (lv_at hl 3 rfl) ?_
  refine lv_iload_n hx hb dL_law_798 rfl (lv_at hl 0 rfl) ?_
  refine lv_iconst (v := 1) hx hb dL_law_799 (by decide) ?_
  refine lv_iadd hx hb dL_law_800 ?_
  refine lq_i t1 et1.symm ?_
  refine va_sld hx hb hX hbl hbA hS (show vp_in t1 L from vi_of (by omega) (by omega)) dL_law_801 ?_
  refine lq_i a1 ea1.symm ?_
  refine lv_aload_n hx hb dL_law_802 rfl (lv_at hl 3 rfl) ?_
  refine lv_iload_n hx hb dL_law_803 rfl (lv_at hl 0 rfl) ?_
  refine lv_iconst (v := 2) hx hb dL_law_804 (by decide) ?_
  refine lv_iadd hx hb dL_law_805 ?_
  refine lq_i t2 et2.symm ?_
  refine va_sld hx hb hX hbl hbA hS (show vp_in t2 L from vi_of (by omega) (by omega)) dL_law_806 ?_
  refine lq_i a2 ea2.symm ?_
  refine lv_aload_n hx hb dL_law_807 rfl (lv_at hl 3 rfl) ?_
  refine lv_iload_n hx hb dL_law_808 rfl (lv_at hl 0 rfl) ?_
  refine lv_iconst (v := 3) hx hb dL_law_809 (by decide) ?_
  refine lv_iadd hx hb dL_law_810 ?_
  refine lq_i t3 et3.symm ?_
  refine va_sld hx hb hX hbl hbA hS (show vp_in t3 L from vi_of (by omega) (by omega)) dL_law_811 ?_
  refine lq_i a3 ea3.symm ?_
  refine lv_aload_n hx hb dL_law_812 rfl (lv_at hl 3 rfl) ?_
  refine lv_iload_n hx hb dL_law_813 rfl (lv_at hl 0 rfl) ?_
  refine lv_iconst (v := 4) hx hb dL_law_814 (by decide) ?_
  refine lv_iadd hx hb dL_law_815 ?_
  refine lq_i t4 et4.symm ?_
  refine va_sld hx hb hX hbl hbA hS (show vp_in t4 L from vi_of (by omega) (by omega)) dL_law_816 ?_
  refine lq_i a4 ea4.symm ?_
  have hDx := dl_left hD
  have hDm := dl_right hD
  have hFm := fr_all hDm hS hA
  refine va_calli (va_runV (As := [.int a1, .int a2, .int a3, .int a4]) (rest := [.int r1]) ⟨hx, hb, hml, hown, hts⟩ (qm_send l dC dI cs adm mum okm H1 hPm (hDm.weaken (fun _ _ _ _ => trivial)) a1 a2 a3 a4) (cwV 4 hts (wL_V mw_6_98 mw_6_95 mw_6_96 mw_6_97 mw_1_13) rfl rfl rfl (by decide +kernel) ⟨Nat.le_of_ble_eq_true rfl, Nat.le_of_ble_eq_true rfl⟩) ⟨sz_c, va_recv hKm hPm (ci := 12) (q0 := 0) rfl (gM_0 cs adm mum), sz_m hKm hz⟩ rfl rfl hl.1 rfl (lv_room (Nat.le_of_ble_eq_true rfl)) dL_law_817 ⟨Nat.le_of_ble_eq_true rfl, Nat.le_of_ble_eq_true rfl⟩) hS (fun q _ h => hFm q h) hFm (fun r2 xi2 t H2 locs ht hvm hw2 hB hz1 hk1 hS => ?_)
  obtain ⟨hfe2, okm, hw2, hkp2⟩ := hw2
  have hPm : va_P (dC, dI) vwCl (wR 21 adm (EM cs adm) xi2) H2 := by rw [← ht]; exact hB
  have hPx := kp_rest (pm_D List.perm_append_comm hD) hPx hk1
  have hD : va_D (fun q : Nat => s.heap.size ≤ q) ((wR 157 adx (EX cs adx) xi1) ++ (wR 21 adm (EM cs adm) xi2)) := wR_DD _ _ hD
  have heq : r1 = r2 := (send_rel okm0 hsim.2 hfe1 hfe2).1
  refine lv_icmp_eq (tgt := 1641) hx hb dL_law_820 (by decide) (fun _ => ?_) (fun c => absurd heq c)
  exact KE xi1 xi2 _ _ _ ⟨okx, okm, ⟨simT_keep (by decide) (by decide) hkp1 hkp2 hsim.1, (send_rel okm0 hsim.2 hfe1 hfe2).2⟩, hPx, hPm, hD, hS, hl⟩
set_option maxHeartbeats 4000000 in
set_option maxRecDepth 100000 in
theorem le_17 {p : Program} {e : Env} {s : State} {m : MethodId} {below : List Frame} {meth : Method} {c : Code} (l : Launch) {b L : Nat} {xs : Nat → Int32} {dC : Nat → ClassId} {dI : Nat → Nat → Nat} {cs : Nat → ClassId} {tt : Nat} {adx adm : Nat → Nat} {i : Int32} (F1 : lw_F p s m meth c b L xs dC dI cs tt) {mux mum : Nat → Nat → Int32} {H : Heap} {locs : List Loc} {ls : Array Slot} (J0 : lw_J s b dC dI cs adx adm i mux mum H locs ls) (hL : L ≤ 384) (hi : 0 ≤ i.toInt ∧ i.toInt + 6 ≤ L) (KE : ∀ (mux mum : Nat → Nat → Int32) (H : Heap) (locs : List Loc) (ls : Array Slot), lw_J s b dC dI cs adx adm i mux mum H locs ls → W p l e room_1 s m #[Value.ref b] below meth c H locs 178 3099 (lw_Z below #[Value.ref b] s) (F0 m 1641 ls [])) : W p l e room_1 s m #[Value.ref b] below meth c H locs 178 3099 (lw_Z below #[Value.ref b] s) (F0 m 825 ls []) := by
  have F2 := F1
  have J1 := J0
  obtain ⟨C0, hKx, hKm, hz, hks⟩ := F1
  obtain ⟨hx, hb, hr, hml, hown0, hts0, hX, hbl, hlocks, hgv⟩ := C0
  obtain ⟨okx, okm, hsim, hPx, hPm, hD, hS, hl⟩ := J0
  have okx0 := okx
  have okm0 := okm
  have hown : s.vm.findClass RL = some m.cls := hown0
  have hts := hts0
  have hbA : ¬ (fun q : Nat => s.heap.size ≤ q) b := Nat.not_le.mpr hbl
  have hA : ∀ q : Nat, s.heap.size ≤ q → (fun q : Nat => s.heap.size ≤ q) q := fun _ h => h
  refine lv_aload_n hx hb dL_law_825 rfl (lv_at hl 2 rfl) ?_
  refine lv_aload_n hx hb dL_law_826 rfl (lv_at hl 3 rfl) ?_
  refine lv_iload_n hx hb dL_law_827 rfl (lv_at hl 0 rfl) ?_
  refine lv_iconst (v := 1) hx hb dL_law_828 (by decide) ?_
  refine lv_iadd hx hb dL_law_829 ?_
  refine lv_topi (fun t1 et1 => ?_)
  have at1 : t1.toInt = i.toInt + 1 := by rw [et1]; exact tI_add rfl (rfl : (1 : Int32).toInt = _) (by show _ ≤ i.toInt + (1 : Int); omega) (by show i.toInt + (1 : Int) < _; omega)
  refine va_sld hx hb hX hbl hbA hS (show vp_in t1 L from vi_of (by omega) (by omega)) dL_law_830 ?_
  refine lv_topi (fun a1 ea1 => ?_)
  refine lv_aload_n hx hb dL_law_831 rfl (lv_at hl 3 rfl) ?_
  refine lv_iload_n hx hb dL_law_832 rfl (lv_at hl 0 rfl) ?_
  refine lv_iconst (v := 2) hx hb dL_law_833 (by decide) ?_
  refine lv_iadd hx hb dL_law_834 ?_
  refine lv_topi (fun t2 et2 => ?_)
  have at2 : t2.toInt = i.toInt + 2 := by rw [et2]; exact tI_add rfl (rfl : (2 : Int32).toInt = _) (by show _ ≤ i.toInt + (2 : Int); omega) (by show i.toInt + (2 : Int) < _; omega)
  refine va_sld hx hb hX hbl hbA hS (show vp_in t2 L from vi_of (by omega) (by omega)) dL_law_835 ?_
  refine lv_topi (fun a2 ea2 => ?_)
  have hDx := dl_left hD
  have hDm := dl_right hD
  have hFx := fr_all hDx hS hA
  refine va_calli (va_runV (As := [.int a1, .int a2]) (rest := []) ⟨hx, hb, hml, hown, hts⟩ (qx_sell l dC dI cs adx mux okx H hPx (hDx.weaken (fun _ _ _ _ => trivial)) a1 a2) (cwV 2 hts (wL_V mw_3_153 mw_3_150 mw_3_151 mw_3_152 mw_1_1) rfl rfl rfl (by decide +kernel) ⟨Nat.le_of_ble_eq_true rfl, Nat.le_of_ble_eq_true rfl⟩) ⟨sz_c, va_recv hKx hPx (ci := 11) (q0 := 0) rfl (gX_0 cs adx mux), sz_m hKx hz⟩ rfl rfl hl.1 rfl (lv_room (Nat.le_of_ble_eq_true rfl)) dL_law_836 ⟨Nat.le_of_ble_eq_true rfl, Nat.le_of_ble_eq_true rfl⟩) hS (fun q _ h => hFx q h) hFx (fun r1 xi1 t H1 locs ht hvm hw1 hB hz1 hk1 hS => ?_)
  obtain ⟨hfe1, okx, hw1, hkp1⟩ := hw1
  have hPx : va_P (dC, dI) vwCl (wR 157 adx (EX cs adx) xi1) H1 := by rw [← ht]; exact hB
  have hPm := kp_rest hD hPm hk1
  have hD : va_D (fun q : Nat => s.heap.size ≤ q) ((wR 157 adx (EX cs adx) xi1) ++ (wR 21 adm (EM cs adm) mum)) := wR_DD _ _ hD
  refine lv_pop hx hb dL_law_839 rfl ?_
  refine lv_aload_n hx hb dL_law_840 rfl (lv_at hl 1 rfl) ?_
  refine lv_aload_n hx hb dL_law_841 rfl (lv_at hl 3 rfl) ?_
  refine lv_iload_n hx hb dL_law_842 rfl (lv_at hl 0 rfl) ?_
  refine lv_iconst (v := 1) hx hb dL_law_843 (by decide) ?_
  refine lv_iadd hx hb dL_law_844 ?_
  refine lq_i t1 et1.symm ?_
  refine va_sld hx hb hX hbl hbA hS (show vp_in t1 L from vi_of (by omega) (by omega)) dL_law_845 ?_
  refine lq_i a1 ea1.symm ?_
  refine lv_aload_n hx hb dL_law_846 rfl (lv_at hl 3 rfl) ?_
  refine lv_iload_n hx hb dL_law_847 rfl (lv_at hl 0 rfl) ?_
  refine lv_iconst (v := 2) hx hb dL_law_848 (by decide) ?_
  refine lv_iadd hx hb dL_law_849 ?_
  refine lq_i t2 et2.symm ?_
  refine va_sld hx hb hX hbl hbA hS (show vp_in t2 L from vi_of (by omega) (by omega)) dL_law_850 ?_
  refine lq_i a2 ea2.symm ?_
  have hDx := dl_left hD
  have hDm := dl_right hD
  have hFm := fr_all hDm hS hA
  refine va_calli (va_runV (As := [.int a1, .int a2]) (rest := []) ⟨hx, hb, hml, hown, hts⟩ (qm_sell l dC dI cs adm mum okm H1 hPm (hDm.weaken (fun _ _ _ _ => trivial)) a1 a2) (cwV 2 hts (wL_V mw_6_110 mw_6_107 mw_6_108 mw_6_109 mw_1_13) rfl rfl rfl (by decide +kernel) ⟨Nat.le_of_ble_eq_true rfl, Nat.le_of_ble_eq_true rfl⟩) ⟨sz_c, va_recv hKm hPm (ci := 12) (q0 := 0) rfl (gM_0 cs adm mum), sz_m hKm hz⟩ rfl rfl hl.1 rfl (lv_room (Nat.le_of_ble_eq_true rfl)) dL_law_851 ⟨Nat.le_of_ble_eq_true rfl, Nat.le_of_ble_eq_true rfl⟩) hS (fun q _ h => hFm q h) hFm (fun r2 xi2 t H2 locs ht hvm hw2 hB hz1 hk1 hS => ?_)
  obtain ⟨hfe2, okm, hw2, hkp2⟩ := hw2
  have hPm : va_P (dC, dI) vwCl (wR 21 adm (EM cs adm) xi2) H2 := by rw [← ht]; exact hB
  have hPx := kp_rest (pm_D List.perm_append_comm hD) hPx hk1
  have hD : va_D (fun q : Nat => s.heap.size ≤ q) ((wR 157 adx (EX cs adx) xi1) ++ (wR 21 adm (EM cs adm) xi2)) := wR_DD _ _ hD
  refine lv_pop hx hb dL_law_854 rfl ?_
  refine lv_goto (tgt := 1641) hx hb dL_law_855 (by decide) ?_
  exact KE xi1 xi2 _ _ _ ⟨okx, okm, ⟨simT_keep (by decide) (by decide) hkp1 hkp2 hsim.1, (sell_rel okm0 hsim.2 hfe1 hfe2).2⟩, hPx, hPm, hD, hS, hl⟩
set_option maxHeartbeats 4000000 in
set_option maxRecDepth 100000 in
theorem le_18 {p : Program} {e : Env} {s : State} {m : MethodId} {below : List Frame} {meth : Method} {c : Code} (l : Launch) {b L : Nat} {xs : Nat → Int32} {dC : Nat → ClassId} {dI : Nat → Nat → Nat} {cs : Nat → ClassId} {tt : Nat} {adx adm : Nat → Nat} {i : Int32} (F1 : lw_F p s m meth c b L xs dC dI cs tt) {mux mum : Nat → Nat → Int32} {H : Heap} {locs : List Loc} {ls : Array Slot} (J0 : lw_J s b dC dI cs adx adm i mux mum H locs ls) (hL : L ≤ 384) (hi : 0 ≤ i.toInt ∧ i.toInt + 6 ≤ L) (KE : ∀ (mux mum : Nat → Nat → Int32) (H : Heap) (locs : List Loc) (ls : Array Slot), lw_J s b dC dI cs adx adm i mux mum H locs ls → W p l e room_1 s m #[Value.ref b] below meth c H locs 178 3099 (lw_Z below #[Value.ref b] s) (F0 m 1641 ls [])) : W p l e room_1 s m #[Value.ref b] below meth c H locs 178 3099 (lw_Z below #[Value.ref b] s) (F0 m 858 ls []) := by
  have F2 := F1
  have J1 := J0
  obtain ⟨C0, hKx, hKm, hz, hks⟩ := F1
  obtain ⟨hx, hb, hr, hml, hown0, hts0, hX, hbl, hlocks, hgv⟩ := C0
  obtain ⟨okx, okm, hsim, hPx, hPm, hD, hS, hl⟩ := J0
  have okx0 := okx
  have okm0 := okm
  have hown : s.vm.findClass RL = some m.cls := hown0
  have hts := hts0
  have hbA : ¬ (fun q : Nat => s.heap.size ≤ q) b := Nat.not_le.mpr hbl
  have hA : ∀ q : Nat, s.heap.size ≤ q → (fun q : Nat => s.heap.size ≤ q) q := fun _ h => h
  refine lv_aload_n hx hb dL_law_858 rfl (lv_at hl 2 rfl) ?_
  refine lv_aload_n hx hb dL_law_859 rfl (lv_at hl 3 rfl) ?_
  refine lv_iload_n hx hb dL_law_860 rfl (lv_at hl 0 rfl) ?_
  refine lv_iconst (v := 1) hx hb dL_law_861 (by decide) ?_
  refine lv_iadd hx hb dL_law_862 ?_
  refine lv_topi (fun t1 et1 => ?_)
  have at1 : t1.toInt = i.toInt + 1 := by rw [et1]; exact tI_add rfl (rfl : (1 : Int32).toInt = _) (by show _ ≤ i.toInt + (1 : Int); omega) (by show i.toInt + (1 : Int) < _; omega)
  refine va_sld hx hb hX hbl hbA hS (show vp_in t1 L from vi_of (by omega) (by omega)) dL_law_863 ?_
  refine lv_topi (fun a1 ea1 => ?_)
  have hDx := dl_left hD
  have hDm := dl_right hD
  have hFx := fr_all hDx hS hA
  refine va_calli (va_runV (As := [.int a1]) (rest := []) ⟨hx, hb, hml, hown, hts⟩ (qx_days l dC dI cs adx mux okx H hPx (hDx.weaken (fun _ _ _ _ => trivial)) a1) (cwV 1 hts (wL_V mw_3_188 mw_3_185 mw_3_186 mw_3_187 mw_1_1) rfl rfl rfl (by decide +kernel) ⟨Nat.le_of_ble_eq_true rfl, Nat.le_of_ble_eq_true rfl⟩) ⟨sz_c, va_recv hKx hPx (ci := 11) (q0 := 0) rfl (gX_0 cs adx mux), sz_m hKx hz⟩ rfl rfl hl.1 rfl (lv_room (Nat.le_of_ble_eq_true rfl)) dL_law_864 ⟨Nat.le_of_ble_eq_true rfl, Nat.le_of_ble_eq_true rfl⟩) hS (fun q _ h => hFx q h) hFx (fun r1 xi1 t H1 locs ht hvm hw1 hB hz1 hk1 hS => ?_)
  obtain ⟨hfe1, okx, hw1, hkp1⟩ := hw1
  have hPx : va_P (dC, dI) vwCl (wR 157 adx (EX cs adx) xi1) H1 := by rw [← ht]; exact hB
  have hPm := kp_rest hD hPm hk1
  have hD : va_D (fun q : Nat => s.heap.size ≤ q) ((wR 157 adx (EX cs adx) xi1) ++ (wR 21 adm (EM cs adm) mum)) := wR_DD _ _ hD
  refine lv_pop hx hb dL_law_867 rfl ?_
  refine lv_aload_n hx hb dL_law_868 rfl (lv_at hl 1 rfl) ?_
  refine lv_aload_n hx hb dL_law_869 rfl (lv_at hl 3 rfl) ?_
  refine lv_iload_n hx hb dL_law_870 rfl (lv_at hl 0 rfl) ?_
  refine lv_iconst (v := 1) hx hb dL_law_871 (by decide) ?_
  refine lv_iadd hx hb dL_law_872 ?_
  refine lq_i t1 et1.symm ?_
  refine va_sld hx hb hX hbl hbA hS (show vp_in t1 L from vi_of (by omega) (by omega)) dL_law_873 ?_
  refine lq_i a1 ea1.symm ?_
  have hDx := dl_left hD
  have hDm := dl_right hD
  have hFm := fr_all hDm hS hA
  refine va_calli (va_runV (As := [.int a1]) (rest := []) ⟨hx, hb, hml, hown, hts⟩ (qm_days l dC dI cs adm mum okm H1 hPm (hDm.weaken (fun _ _ _ _ => trivial)) a1) (cwV 1 hts (wL_V mw_6_134 mw_6_131 mw_6_132 mw_6_133 mw_1_13) rfl rfl rfl (by decide +kernel) ⟨Nat.le_of_ble_eq_true rfl, Nat.le_of_ble_eq_true rfl⟩) ⟨sz_c, va_recv hKm hPm (ci := 12) (q0 := 0) rfl (gM_0 cs adm mum), sz_m hKm hz⟩ rfl rfl hl.1 rfl (lv_room (Nat.le_of_ble_eq_true rfl)) dL_law_874 ⟨Nat.le_of_ble_eq_true rfl, Nat.le_of_ble_eq_true rfl⟩) hS (fun q _ h => hFm q h) hFm (fun r2 xi2 t H2 locs ht hvm hw2 hB hz1 hk1 hS => ?_)
  obtain ⟨hfe2, okm, hw2, hkp2⟩ := hw2
  have hPm : va_P (dC, dI) vwCl (wR 21 adm (EM cs adm) xi2) H2 := by rw [← ht]; exact hB
  have hPx := kp_rest (pm_D List.perm_append_comm hD) hPx hk1
  have hD : va_D (fun q : Nat => s.heap.size ≤ q) ((wR 157 adx (EX cs adx) xi1) ++ (wR 21 adm (EM cs adm) xi2)) := wR_DD _ _ hD
  refine lv_pop hx hb dL_law_877 rfl ?_
  refine lv_goto (tgt := 1641) hx hb dL_law_878 (by decide) ?_
  exact KE xi1 xi2 _ _ _ ⟨okx, okm, ⟨simT_keep (by decide) (by decide) hkp1 hkp2 hsim.1, (days_rel okm0 hsim.2 hfe1 hfe2).2⟩, hPx, hPm, hD, hS, hl⟩
set_option maxHeartbeats 4000000 in
set_option maxRecDepth 100000 in
theorem le_19 {p : Program} {e : Env} {s : State} {m : MethodId} {below : List Frame} {meth : Method} {c : Code} (l : Launch) {b L : Nat} {xs : Nat → Int32} {dC : Nat → ClassId} {dI : Nat → Nat → Nat} {cs : Nat → ClassId} {tt : Nat} {adx adm : Nat → Nat} {i : Int32} (F1 : lw_F p s m meth c b L xs dC dI cs tt) {mux mum : Nat → Nat → Int32} {H : Heap} {locs : List Loc} {ls : Array Slot} (J0 : lw_J s b dC dI cs adx adm i mux mum H locs ls) (hL : L ≤ 384) (hi : 0 ≤ i.toInt ∧ i.toInt + 6 ≤ L) (KE : ∀ (mux mum : Nat → Nat → Int32) (H : Heap) (locs : List Loc) (ls : Array Slot), lw_J s b dC dI cs adx adm i mux mum H locs ls → W p l e room_1 s m #[Value.ref b] below meth c H locs 178 3099 (lw_Z below #[Value.ref b] s) (F0 m 1641 ls [])) : W p l e room_1 s m #[Value.ref b] below meth c H locs 178 3099 (lw_Z below #[Value.ref b] s) (F0 m 881 ls []) := by
  have F2 := F1
  have J1 := J0
  obtain ⟨C0, hKx, hKm, hz, hks⟩ := F1
  obtain ⟨hx, hb, hr, hml, hown0, hts0, hX, hbl, hlocks, hgv⟩ := C0
  obtain ⟨okx, okm, hsim, hPx, hPm, hD, hS, hl⟩ := J0
  have okx0 := okx
  have okm0 := okm
  have hown : s.vm.findClass RL = some m.cls := hown0
  have hts := hts0
  have hbA : ¬ (fun q : Nat => s.heap.size ≤ q) b := Nat.not_le.mpr hbl
  have hA : ∀ q : Nat, s.heap.size ≤ q → (fun q : Nat => s.heap.size ≤ q) q := fun _ h => h
  refine lv_aload_n hx hb dL_law_881 rfl (lv_at hl 2 rfl) ?_
  refine lv_aload_n hx hb dL_law_882 rfl (lv_at hl 3 rfl) ?_
  refine lv_iload_n hx hb dL_law_883 rfl (lv_at hl 0 rfl) ?_
  refine lv_iconst (v := 1) hx hb dL_law_884 (by decide) ?_
  refine lv_iadd hx hb dL_law_885 ?_
  refine lv_topi (fun t1 et1 => ?_)
  have at1 : t1.toInt = i.toInt + 1 := by rw [et1]; exact tI_add rfl (rfl : (1 : Int32).toInt = _) (by show _ ≤ i.toInt + (1 : Int); omega) (by show i.toInt + (1 : Int) < _; omega)
  refine va_sld hx hb hX hbl hbA hS (show vp_in t1 L from vi_of (by omega) (by omega)) dL_law_886 ?_
  refine lv_topi (fun a1 ea1 => ?_)
  have hDx := dl_left hD
  have hDm := dl_right hD
  have hFx := fr_all hDx hS hA
  refine va_calli (va_runV (As := [.int a1]) (rest := []) ⟨hx, hb, hml, hown, hts⟩ (qx_where l dC dI cs adx mux okx H hPx (hDx.weaken (fun _ _ _ _ => trivial)) a1) (cwV 1 hts (wL_V mw_3_192 mw_3_189 mw_3_190 mw_3_191 mw_1_1) rfl rfl rfl (by decide +kernel) ⟨Nat.le_of_ble_eq_true rfl, Nat.le_of_ble_eq_true rfl⟩) ⟨sz_c, va_recv hKx hPx (ci := 11) (q0 := 0) rfl (gX_0 cs adx mux), sz_m hKx hz⟩ rfl rfl hl.1 rfl (lv_room (Nat.le_of_ble_eq_true rfl)) dL_law_887 ⟨Nat.le_of_ble_eq_true rfl, Nat.le_of_ble_eq_true rfl⟩) hS (fun q _ h => hFx q h) hFx (fun r1 xi1 t H1 locs ht hvm hw1 hB hz1 hk1 hS => ?_)
  obtain ⟨hfe1, okx, hw1, hkp1⟩ := hw1
  have hPx : va_P (dC, dI) vwCl (wR 157 adx (EX cs adx) xi1) H1 := by rw [← ht]; exact hB
  have hPm := kp_rest hD hPm hk1
  have hD : va_D (fun q : Nat => s.heap.size ≤ q) ((wR 157 adx (EX cs adx) xi1) ++ (wR 21 adm (EM cs adm) mum)) := wR_DD _ _ hD
  refine lv_pop hx hb dL_law_890 rfl ?_
  refine lv_aload_n hx hb dL_law_891 rfl (lv_at hl 1 rfl) ?_
  refine lv_aload_n hx hb dL_law_892 rfl (lv_at hl 3 rfl) ?_
  refine lv_iload_n hx hb dL_law_893 rfl (lv_at hl 0 rfl) ?_
  refine lv_iconst (v := 1) hx hb dL_law_894 (by decide) ?_
  refine lv_iadd hx hb dL_law_895 ?_
  refine lq_i t1 et1.symm ?_
  refine va_sld hx hb hX hbl hbA hS (show vp_in t1 L from vi_of (by omega) (by omega)) dL_law_896 ?_
  refine lq_i a1 ea1.symm ?_
  have hDx := dl_left hD
  have hDm := dl_right hD
  have hFm := fr_all hDm hS hA
  refine va_calli (va_runV (As := [.int a1]) (rest := []) ⟨hx, hb, hml, hown, hts⟩ (qm_where l dC dI cs adm mum okm H1 hPm (hDm.weaken (fun _ _ _ _ => trivial)) a1) (cwV 1 hts (wL_V mw_6_138 mw_6_135 mw_6_136 mw_6_137 mw_1_13) rfl rfl rfl (by decide +kernel) ⟨Nat.le_of_ble_eq_true rfl, Nat.le_of_ble_eq_true rfl⟩) ⟨sz_c, va_recv hKm hPm (ci := 12) (q0 := 0) rfl (gM_0 cs adm mum), sz_m hKm hz⟩ rfl rfl hl.1 rfl (lv_room (Nat.le_of_ble_eq_true rfl)) dL_law_897 ⟨Nat.le_of_ble_eq_true rfl, Nat.le_of_ble_eq_true rfl⟩) hS (fun q _ h => hFm q h) hFm (fun r2 xi2 t H2 locs ht hvm hw2 hB hz1 hk1 hS => ?_)
  obtain ⟨hfe2, okm, hw2, hkp2⟩ := hw2
  have hPm : va_P (dC, dI) vwCl (wR 21 adm (EM cs adm) xi2) H2 := by rw [← ht]; exact hB
  have hPx := kp_rest (pm_D List.perm_append_comm hD) hPx hk1
  have hD : va_D (fun q : Nat => s.heap.size ≤ q) ((wR 157 adx (EX cs adx) xi1) ++ (wR 21 adm (EM cs adm) xi2)) := wR_DD _ _ hD
  refine lv_pop hx hb dL_law_900 rfl ?_
  refine lv_goto (tgt := 1641) hx hb dL_law_901 (by decide) ?_
  exact KE xi1 xi2 _ _ _ ⟨okx, okm, ⟨simT_keep (by decide) (by decide) hkp1 hkp2 hsim.1, core_keep okm0 (by decide) (by decide) hkp1 hkp2 hsim.2⟩, hPx, hPm, hD, hS, hl⟩
set_option maxHeartbeats 4000000 in
set_option maxRecDepth 100000 in
theorem le_20 {p : Program} {e : Env} {s : State} {m : MethodId} {below : List Frame} {meth : Method} {c : Code} (l : Launch) {b L : Nat} {xs : Nat → Int32} {dC : Nat → ClassId} {dI : Nat → Nat → Nat} {cs : Nat → ClassId} {tt : Nat} {adx adm : Nat → Nat} {i : Int32} (F1 : lw_F p s m meth c b L xs dC dI cs tt) {mux mum : Nat → Nat → Int32} {H : Heap} {locs : List Loc} {ls : Array Slot} (J0 : lw_J s b dC dI cs adx adm i mux mum H locs ls) (hL : L ≤ 384) (hi : 0 ≤ i.toInt ∧ i.toInt + 6 ≤ L) (KE : ∀ (mux mum : Nat → Nat → Int32) (H : Heap) (locs : List Loc) (ls : Array Slot), lw_J s b dC dI cs adx adm i mux mum H locs ls → W p l e room_1 s m #[Value.ref b] below meth c H locs 178 3099 (lw_Z below #[Value.ref b] s) (F0 m 1641 ls [])) : W p l e room_1 s m #[Value.ref b] below meth c H locs 178 3099 (lw_Z below #[Value.ref b] s) (F0 m 904 ls []) := by
  have F2 := F1
  have J1 := J0
  obtain ⟨C0, hKx, hKm, hz, hks⟩ := F1
  obtain ⟨hx, hb, hr, hml, hown0, hts0, hX, hbl, hlocks, hgv⟩ := C0
  obtain ⟨okx, okm, hsim, hPx, hPm, hD, hS, hl⟩ := J0
  have okx0 := okx
  have okm0 := okm
  have hown : s.vm.findClass RL = some m.cls := hown0
  have hts := hts0
  have hbA : ¬ (fun q : Nat => s.heap.size ≤ q) b := Nat.not_le.mpr hbl
  have hA : ∀ q : Nat, s.heap.size ≤ q → (fun q : Nat => s.heap.size ≤ q) q := fun _ h => h
  refine lv_aload_n hx hb dL_law_904 rfl (lv_at hl 2 rfl) ?_
  refine lv_aload_n hx hb dL_law_905 rfl (lv_at hl 3 rfl) ?_
  refine lv_iload_n hx hb dL_law_906 rfl (lv_at hl 0 rfl) ?_
  refine lv_iconst (v := 1) hx hb dL_law_907 (by decide) ?_
  refine lv_iadd hx hb dL_law_908 ?_
  refine lv_topi (fun t1 et1 => ?_)
  have at1 : t1.toInt = i.toInt + 1 := by rw [et1]; exact tI_add rfl (rfl : (1 : Int32).toInt = _) (by show _ ≤ i.toInt + (1 : Int); omega) (by show i.toInt + (1 : Int) < _; omega)
  refine va_sld hx hb hX hbl hbA hS (show vp_in t1 L from vi_of (by omega) (by omega)) dL_law_909 ?_
  refine lv_topi (fun a1 ea1 => ?_)
  refine lv_aload_n hx hb dL_law_910 rfl (lv_at hl 3 rfl) ?_
  refine lv_iload_n hx hb dL_law_911 rfl (lv_at hl 0 rfl) ?_
  refine lv_iconst (v := 2) hx hb dL_law_912 (by decide) ?_
  refine lv_iadd hx hb dL_law_913 ?_
  refine lv_topi (fun t2 et2 => ?_)
  have at2 : t2.toInt = i.toInt + 2 := by rw [et2]; exact tI_add rfl (rfl : (2 : Int32).toInt = _) (by show _ ≤ i.toInt + (2 : Int); omega) (by show i.toInt + (2 : Int) < _; omega)
  refine va_sld hx hb hX hbl hbA hS (show vp_in t2 L from vi_of (by omega) (by omega)) dL_law_914 ?_
  refine lv_topi (fun a2 ea2 => ?_)
  have hDx := dl_left hD
  have hDm := dl_right hD
  have hFx := fr_all hDx hS hA
  refine va_calli (va_runV (As := [.int a1, .int a2]) (rest := []) ⟨hx, hb, hml, hown, hts⟩ (qx_letter l dC dI cs adx mux okx H hPx (hDx.weaken (fun _ _ _ _ => trivial)) a1 a2) (cwV 2 hts (wL_V mw_3_196 mw_3_193 mw_3_194 mw_3_195 mw_1_1) rfl rfl rfl (by decide +kernel) ⟨Nat.le_of_ble_eq_true rfl, Nat.le_of_ble_eq_true rfl⟩) ⟨sz_c, va_recv hKx hPx (ci := 11) (q0 := 0) rfl (gX_0 cs adx mux), sz_m hKx hz⟩ rfl rfl hl.1 rfl (lv_room (Nat.le_of_ble_eq_true rfl)) dL_law_915 ⟨Nat.le_of_ble_eq_true rfl, Nat.le_of_ble_eq_true rfl⟩) hS (fun q _ h => hFx q h) hFx (fun r1 xi1 t H1 locs ht hvm hw1 hB hz1 hk1 hS => ?_)
  obtain ⟨hfe1, okx, hw1, hkp1⟩ := hw1
  have hPx : va_P (dC, dI) vwCl (wR 157 adx (EX cs adx) xi1) H1 := by rw [← ht]; exact hB
  have hPm := kp_rest hD hPm hk1
  have hD : va_D (fun q : Nat => s.heap.size ≤ q) ((wR 157 adx (EX cs adx) xi1) ++ (wR 21 adm (EM cs adm) mum)) := wR_DD _ _ hD
  refine lv_pop hx hb dL_law_918 rfl ?_
  refine lv_aload_n hx hb dL_law_919 rfl (lv_at hl 1 rfl) ?_
  refine lv_aload_n hx hb dL_law_920 rfl (lv_at hl 3 rfl) ?_
  refine lv_iload_n hx hb dL_law_921 rfl (lv_at hl 0 rfl) ?_
  refine lv_iconst (v := 1) hx hb dL_law_922 (by decide) ?_
  refine lv_iadd hx hb dL_law_923 ?_
  refine lq_i t1 et1.symm ?_
  refine va_sld hx hb hX hbl hbA hS (show vp_in t1 L from vi_of (by omega) (by omega)) dL_law_924 ?_
  refine lq_i a1 ea1.symm ?_
  refine lv_aload_n hx hb dL_law_925 rfl (lv_at hl 3 rfl) ?_
  refine lv_iload_n hx hb dL_law_926 rfl (lv_at hl 0 rfl) ?_
  refine lv_iconst (v := 2) hx hb dL_law_927 (by decide) ?_
  refine lv_iadd hx hb dL_law_928 ?_
  refine lq_i t2 et2.symm ?_
  refine va_sld hx hb hX hbl hbA hS (show vp_in t2 L from vi_of (by omega) (by omega)) dL_law_929 ?_
  refine lq_i a2 ea2.symm ?_
  have hDx := dl_left hD
  have hDm := dl_right hD
  have hFm := fr_all hDm hS hA
  refine va_calli (va_runV (As := [.int a1, .int a2]) (rest := []) ⟨hx, hb, hml, hown, hts⟩ (qm_letter l dC dI cs adm mum okm H1 hPm (hDm.weaken (fun _ _ _ _ => trivial)) a1 a2) (cwV 2 hts (wL_V mw_6_142 mw_6_139 mw_6_140 mw_6_141 mw_1_13) rfl rfl rfl (by decide +kernel) ⟨Nat.le_of_ble_eq_true rfl, Nat.le_of_ble_eq_true rfl⟩) ⟨sz_c, va_recv hKm hPm (ci := 12) (q0 := 0) rfl (gM_0 cs adm mum), sz_m hKm hz⟩ rfl rfl hl.1 rfl (lv_room (Nat.le_of_ble_eq_true rfl)) dL_law_930 ⟨Nat.le_of_ble_eq_true rfl, Nat.le_of_ble_eq_true rfl⟩) hS (fun q _ h => hFm q h) hFm (fun r2 xi2 t H2 locs ht hvm hw2 hB hz1 hk1 hS => ?_)
  obtain ⟨hfe2, okm, hw2, hkp2⟩ := hw2
  have hPm : va_P (dC, dI) vwCl (wR 21 adm (EM cs adm) xi2) H2 := by rw [← ht]; exact hB
  have hPx := kp_rest (pm_D List.perm_append_comm hD) hPx hk1
  have hD : va_D (fun q : Nat => s.heap.size ≤ q) ((wR 157 adx (EX cs adx) xi1) ++ (wR 21 adm (EM cs adm) xi2)) := wR_DD _ _ hD
  refine lv_pop hx hb dL_law_933 rfl ?_
  refine lv_goto (tgt := 1641) hx hb dL_law_934 (by decide) ?_
  exact KE xi1 xi2 _ _ _ ⟨okx, okm, ⟨simT_keep (by decide) (by decide) hkp1 hkp2 hsim.1, core_keep okm0 (by decide) (by decide) hkp1 hkp2 hsim.2⟩, hPx, hPm, hD, hS, hl⟩
set_option maxHeartbeats 4000000 in
set_option maxRecDepth 100000 in
theorem le_21 {p : Program} {e : Env} {s : State} {m : MethodId} {below : List Frame} {meth : Method} {c : Code} (l : Launch) {b L : Nat} {xs : Nat → Int32} {dC : Nat → ClassId} {dI : Nat → Nat → Nat} {cs : Nat → ClassId} {tt : Nat} {adx adm : Nat → Nat} {i : Int32} (F1 : lw_F p s m meth c b L xs dC dI cs tt) {mux mum : Nat → Nat → Int32} {H : Heap} {locs : List Loc} {ls : Array Slot} (J0 : lw_J s b dC dI cs adx adm i mux mum H locs ls) (hL : L ≤ 384) (hi : 0 ≤ i.toInt ∧ i.toInt + 6 ≤ L) (KE : ∀ (mux mum : Nat → Nat → Int32) (H : Heap) (locs : List Loc) (ls : Array Slot), lw_J s b dC dI cs adx adm i mux mum H locs ls → W p l e room_1 s m #[Value.ref b] below meth c H locs 178 3099 (lw_Z below #[Value.ref b] s) (F0 m 1641 ls [])) : W p l e room_1 s m #[Value.ref b] below meth c H locs 178 3099 (lw_Z below #[Value.ref b] s) (F0 m 937 ls []) := by
  have F2 := F1
  have J1 := J0
  obtain ⟨C0, hKx, hKm, hz, hks⟩ := F1
  obtain ⟨hx, hb, hr, hml, hown0, hts0, hX, hbl, hlocks, hgv⟩ := C0
  obtain ⟨okx, okm, hsim, hPx, hPm, hD, hS, hl⟩ := J0
  have okx0 := okx
  have okm0 := okm
  have hown : s.vm.findClass RL = some m.cls := hown0
  have hts := hts0
  have hbA : ¬ (fun q : Nat => s.heap.size ≤ q) b := Nat.not_le.mpr hbl
  have hA : ∀ q : Nat, s.heap.size ≤ q → (fun q : Nat => s.heap.size ≤ q) q := fun _ h => h
  refine lv_aload_n hx hb dL_law_937 rfl (lv_at hl 2 rfl) ?_
  refine lv_aload_n hx hb dL_law_938 rfl (lv_at hl 3 rfl) ?_
  refine lv_iload_n hx hb dL_law_939 rfl (lv_at hl 0 rfl) ?_
  refine lv_iconst (v := 1) hx hb dL_law_940 (by decide) ?_
  refine lv_iadd hx hb dL_law_941 ?_
  refine lv_topi (fun t1 et1 => ?_)
  have at1 : t1.toInt = i.toInt + 1 := by rw [et1]; exact tI_add rfl (rfl : (1 : Int32).toInt = _) (by show _ ≤ i.toInt + (1 : Int); omega) (by show i.toInt + (1 : Int) < _; omega)
  refine va_sld hx hb hX hbl hbA hS (show vp_in t1 L from vi_of (by omega) (by omega)) dL_law_942 ?_
  refine lv_topi (fun a1 ea1 => ?_)
  have hDx := dl_left hD
  have hDm := dl_right hD
  have hFx := fr_all hDx hS hA
  refine va_calli (va_runV (As := [.int a1]) (rest := []) ⟨hx, hb, hml, hown, hts⟩ (qx_can l dC dI cs adx mux okx H hPx (hDx.weaken (fun _ _ _ _ => trivial)) a1) (cwV 1 hts (wL_V mw_3_205 mw_3_202 mw_3_203 mw_3_204 mw_1_1) rfl rfl rfl (by decide +kernel) ⟨Nat.le_of_ble_eq_true rfl, Nat.le_of_ble_eq_true rfl⟩) ⟨sz_c, va_recv hKx hPx (ci := 11) (q0 := 0) rfl (gX_0 cs adx mux), sz_m hKx hz⟩ rfl rfl hl.1 rfl (lv_room (Nat.le_of_ble_eq_true rfl)) dL_law_943 ⟨Nat.le_of_ble_eq_true rfl, Nat.le_of_ble_eq_true rfl⟩) hS (fun q _ h => hFx q h) hFx (fun r1 xi1 t H1 locs ht hvm hw1 hB hz1 hk1 hS => ?_)
  obtain ⟨hfe1, okx, hw1, hkp1⟩ := hw1
  have hPx : va_P (dC, dI) vwCl (wR 157 adx (EX cs adx) xi1) H1 := by rw [← ht]; exact hB
  have hPm := kp_rest hD hPm hk1
  have hD : va_D (fun q : Nat => s.heap.size ≤ q) ((wR 157 adx (EX cs adx) xi1) ++ (wR 21 adm (EM cs adm) mum)) := wR_DD _ _ hD
  refine lv_pop hx hb dL_law_946 rfl ?_
  refine lv_aload_n hx hb dL_law_947 rfl (lv_at hl 1 rfl) ?_
  refine lv_aload_n hx hb dL_law_948 rfl (lv_at hl 3 rfl) ?_
  refine lv_iload_n hx hb dL_law_949 rfl (lv_at hl 0 rfl) ?_
  refine lv_iconst (v := 1) hx hb dL_law_950 (by decide) ?_
  refine lv_iadd hx hb dL_law_951 ?_
  refine lq_i t1 et1.symm ?_
  refine va_sld hx hb hX hbl hbA hS (show vp_in t1 L from vi_of (by omega) (by omega)) dL_law_952 ?_
  refine lq_i a1 ea1.symm ?_
  have hDx := dl_left hD
  have hDm := dl_right hD
  have hFm := fr_all hDm hS hA
  refine va_calli (va_runV (As := [.int a1]) (rest := []) ⟨hx, hb, hml, hown, hts⟩ (qm_can l dC dI cs adm mum okm H1 hPm (hDm.weaken (fun _ _ _ _ => trivial)) a1) (cwV 1 hts (wL_V mw_6_150 mw_6_147 mw_6_148 mw_6_149 mw_1_13) rfl rfl rfl (by decide +kernel) ⟨Nat.le_of_ble_eq_true rfl, Nat.le_of_ble_eq_true rfl⟩) ⟨sz_c, va_recv hKm hPm (ci := 12) (q0 := 0) rfl (gM_0 cs adm mum), sz_m hKm hz⟩ rfl rfl hl.1 rfl (lv_room (Nat.le_of_ble_eq_true rfl)) dL_law_953 ⟨Nat.le_of_ble_eq_true rfl, Nat.le_of_ble_eq_true rfl⟩) hS (fun q _ h => hFm q h) hFm (fun r2 xi2 t H2 locs ht hvm hw2 hB hz1 hk1 hS => ?_)
  obtain ⟨hfe2, okm, hw2, hkp2⟩ := hw2
  have hPm : va_P (dC, dI) vwCl (wR 21 adm (EM cs adm) xi2) H2 := by rw [← ht]; exact hB
  have hPx := kp_rest (pm_D List.perm_append_comm hD) hPx hk1
  have hD : va_D (fun q : Nat => s.heap.size ≤ q) ((wR 157 adx (EX cs adx) xi1) ++ (wR 21 adm (EM cs adm) xi2)) := wR_DD _ _ hD
  refine lv_pop hx hb dL_law_956 rfl ?_
  refine lv_goto (tgt := 1641) hx hb dL_law_957 (by decide) ?_
  exact KE xi1 xi2 _ _ _ ⟨okx, okm, ⟨simT_keep (by decide) (by decide) hkp1 hkp2 hsim.1, core_keep okm0 (by decide) (by decide) hkp1 hkp2 hsim.2⟩, hPx, hPm, hD, hS, hl⟩
set_option maxHeartbeats 4000000 in
set_option maxRecDepth 100000 in
theorem le_22 {p : Program} {e : Env} {s : State} {m : MethodId} {below : List Frame} {meth : Method} {c : Code} (l : Launch) {b L : Nat} {xs : Nat → Int32} {dC : Nat → ClassId} {dI : Nat → Nat → Nat} {cs : Nat → ClassId} {tt : Nat} {adx adm : Nat → Nat} {i : Int32} (F1 : lw_F p s m meth c b L xs dC dI cs tt) {mux mum : Nat → Nat → Int32} {H : Heap} {locs : List Loc} {ls : Array Slot} (J0 : lw_J s b dC dI cs adx adm i mux mum H locs ls) (hL : L ≤ 384) (hi : 0 ≤ i.toInt ∧ i.toInt + 6 ≤ L) (KE : ∀ (mux mum : Nat → Nat → Int32) (H : Heap) (locs : List Loc) (ls : Array Slot), lw_J s b dC dI cs adx adm i mux mum H locs ls → W p l e room_1 s m #[Value.ref b] below meth c H locs 178 3099 (lw_Z below #[Value.ref b] s) (F0 m 1641 ls [])) : W p l e room_1 s m #[Value.ref b] below meth c H locs 178 3099 (lw_Z below #[Value.ref b] s) (F0 m 960 ls []) := by
  have F2 := F1
  have J1 := J0
  obtain ⟨C0, hKx, hKm, hz, hks⟩ := F1
  obtain ⟨hx, hb, hr, hml, hown0, hts0, hX, hbl, hlocks, hgv⟩ := C0
  obtain ⟨okx, okm, hsim, hPx, hPm, hD, hS, hl⟩ := J0
  have okx0 := okx
  have okm0 := okm
  have hown : s.vm.findClass RL = some m.cls := hown0
  have hts := hts0
  have hbA : ¬ (fun q : Nat => s.heap.size ≤ q) b := Nat.not_le.mpr hbl
  have hA : ∀ q : Nat, s.heap.size ≤ q → (fun q : Nat => s.heap.size ≤ q) q := fun _ h => h
  refine lv_aload_n hx hb dL_law_960 rfl (lv_at hl 2 rfl) ?_
  refine lv_aload_n hx hb dL_law_961 rfl (lv_at hl 3 rfl) ?_
  refine lv_iload_n hx hb dL_law_962 rfl (lv_at hl 0 rfl) ?_
  refine lv_iconst (v := 1) hx hb dL_law_963 (by decide) ?_
  refine lv_iadd hx hb dL_law_964 ?_
  refine lv_topi (fun t1 et1 => ?_)
  have at1 : t1.toInt = i.toInt + 1 := by rw [et1]; exact tI_add rfl (rfl : (1 : Int32).toInt = _) (by show _ ≤ i.toInt + (1 : Int); omega) (by show i.toInt + (1 : Int) < _; omega)
  refine va_sld hx hb hX hbl hbA hS (show vp_in t1 L from vi_of (by omega) (by omega)) dL_law_965 ?_
  refine lv_topi (fun a1 ea1 => ?_)
  have hDx := dl_left hD
  have hDm := dl_right hD
  have hFx := fr_all hDx hS hA
  refine va_calli (va_runV (As := [.int a1]) (rest := []) ⟨hx, hb, hml, hown, hts⟩ (qx_undo l dC dI cs adx mux okx H hPx (hDx.weaken (fun _ _ _ _ => trivial)) a1) (cwV 1 hts (wL_V mw_3_209 mw_3_206 mw_3_207 mw_3_208 mw_1_1) rfl rfl rfl (by decide +kernel) ⟨Nat.le_of_ble_eq_true rfl, Nat.le_of_ble_eq_true rfl⟩) ⟨sz_c, va_recv hKx hPx (ci := 11) (q0 := 0) rfl (gX_0 cs adx mux), sz_m hKx hz⟩ rfl rfl hl.1 rfl (lv_room (Nat.le_of_ble_eq_true rfl)) dL_law_966 ⟨Nat.le_of_ble_eq_true rfl, Nat.le_of_ble_eq_true rfl⟩) hS (fun q _ h => hFx q h) hFx (fun r1 xi1 t H1 locs ht hvm hw1 hB hz1 hk1 hS => ?_)
  obtain ⟨hfe1, okx, hw1, hkp1⟩ := hw1
  have hPx : va_P (dC, dI) vwCl (wR 157 adx (EX cs adx) xi1) H1 := by rw [← ht]; exact hB
  have hPm := kp_rest hD hPm hk1
  have hD : va_D (fun q : Nat => s.heap.size ≤ q) ((wR 157 adx (EX cs adx) xi1) ++ (wR 21 adm (EM cs adm) mum)) := wR_DD _ _ hD
  refine lv_pop hx hb dL_law_969 rfl ?_
  refine lv_aload_n hx hb dL_law_970 rfl (lv_at hl 1 rfl) ?_
  refine lv_aload_n hx hb dL_law_971 rfl (lv_at hl 3 rfl) ?_
  refine lv_iload_n hx hb dL_law_972 rfl (lv_at hl 0 rfl) ?_
  refine lv_iconst (v := 1) hx hb dL_law_973 (by decide) ?_
  refine lv_iadd hx hb dL_law_974 ?_
  refine lq_i t1 et1.symm ?_
  refine va_sld hx hb hX hbl hbA hS (show vp_in t1 L from vi_of (by omega) (by omega)) dL_law_975 ?_
  refine lq_i a1 ea1.symm ?_
  have hDx := dl_left hD
  have hDm := dl_right hD
  have hFm := fr_all hDm hS hA
  refine va_calli (va_runV (As := [.int a1]) (rest := []) ⟨hx, hb, hml, hown, hts⟩ (qm_undo l dC dI cs adm mum okm H1 hPm (hDm.weaken (fun _ _ _ _ => trivial)) a1) (cwV 1 hts (wL_V mw_6_154 mw_6_151 mw_6_152 mw_6_153 mw_1_13) rfl rfl rfl (by decide +kernel) ⟨Nat.le_of_ble_eq_true rfl, Nat.le_of_ble_eq_true rfl⟩) ⟨sz_c, va_recv hKm hPm (ci := 12) (q0 := 0) rfl (gM_0 cs adm mum), sz_m hKm hz⟩ rfl rfl hl.1 rfl (lv_room (Nat.le_of_ble_eq_true rfl)) dL_law_976 ⟨Nat.le_of_ble_eq_true rfl, Nat.le_of_ble_eq_true rfl⟩) hS (fun q _ h => hFm q h) hFm (fun r2 xi2 t H2 locs ht hvm hw2 hB hz1 hk1 hS => ?_)
  obtain ⟨hfe2, okm, hw2, hkp2⟩ := hw2
  have hPm : va_P (dC, dI) vwCl (wR 21 adm (EM cs adm) xi2) H2 := by rw [← ht]; exact hB
  have hPx := kp_rest (pm_D List.perm_append_comm hD) hPx hk1
  have hD : va_D (fun q : Nat => s.heap.size ≤ q) ((wR 157 adx (EX cs adx) xi1) ++ (wR 21 adm (EM cs adm) xi2)) := wR_DD _ _ hD
  refine lv_pop hx hb dL_law_979 rfl ?_
  refine lv_goto (tgt := 1641) hx hb dL_law_980 (by decide) ?_
  exact KE xi1 xi2 _ _ _ ⟨okx, okm, ⟨simT_keep (by decide) (by decide) hkp1 hkp2 hsim.1, (undo_rel okm0 hsim.2 hfe1 hfe2).2⟩, hPx, hPm, hD, hS, hl⟩
set_option maxHeartbeats 4000000 in
set_option maxRecDepth 100000 in
theorem le_23 {p : Program} {e : Env} {s : State} {m : MethodId} {below : List Frame} {meth : Method} {c : Code} (l : Launch) {b L : Nat} {xs : Nat → Int32} {dC : Nat → ClassId} {dI : Nat → Nat → Nat} {cs : Nat → ClassId} {tt : Nat} {adx adm : Nat → Nat} {i : Int32} (F1 : lw_F p s m meth c b L xs dC dI cs tt) {mux mum : Nat → Nat → Int32} {H : Heap} {locs : List Loc} {ls : Array Slot} (J0 : lw_J s b dC dI cs adx adm i mux mum H locs ls) (hL : L ≤ 384) (hi : 0 ≤ i.toInt ∧ i.toInt + 6 ≤ L) (KE : ∀ (mux mum : Nat → Nat → Int32) (H : Heap) (locs : List Loc) (ls : Array Slot), lw_J s b dC dI cs adx adm i mux mum H locs ls → W p l e room_1 s m #[Value.ref b] below meth c H locs 178 3099 (lw_Z below #[Value.ref b] s) (F0 m 1641 ls [])) : W p l e room_1 s m #[Value.ref b] below meth c H locs 178 3099 (lw_Z below #[Value.ref b] s) (F0 m 983 ls []) := by
  have F2 := F1
  have J1 := J0
  obtain ⟨C0, hKx, hKm, hz, hks⟩ := F1
  obtain ⟨hx, hb, hr, hml, hown0, hts0, hX, hbl, hlocks, hgv⟩ := C0
  obtain ⟨okx, okm, hsim, hPx, hPm, hD, hS, hl⟩ := J0
  have okx0 := okx
  have okm0 := okm
  have hown : s.vm.findClass RL = some m.cls := hown0
  have hts := hts0
  have hbA : ¬ (fun q : Nat => s.heap.size ≤ q) b := Nat.not_le.mpr hbl
  have hA : ∀ q : Nat, s.heap.size ≤ q → (fun q : Nat => s.heap.size ≤ q) q := fun _ h => h
  refine lv_aload_n hx hb dL_law_983 rfl (lv_at hl 2 rfl) ?_
  refine lv_aload_n hx hb dL_law_984 rfl (lv_at hl 3 rfl) ?_
  refine lv_iload_n hx hb dL_law_985 rfl (lv_at hl 0 rfl) ?_
  refine lv_iconst (v := 1) hx hb dL_law_986 (by decide) ?_
  refine lv_iadd hx hb dL_law_987 ?_
  refine lv_topi (fun t1 et1 => ?_)
  have at1 : t1.toInt = i.toInt + 1 := by rw [et1]; exact tI_add rfl (rfl : (1 : Int32).toInt = _) (by show _ ≤ i.toInt + (1 : Int); omega) (by show i.toInt + (1 : Int) < _; omega)
  refine va_sld hx hb hX hbl hbA hS (show vp_in t1 L from vi_of (by omega) (by omega)) dL_law_988 ?_
  refine lv_topi (fun a1 ea1 => ?_)
  have hDx := dl_left hD
  have hDm := dl_right hD
  have hFx := fr_all hDx hS hA
  refine va_calli (va_runV (As := [.int a1]) (rest := []) ⟨hx, hb, hml, hown, hts⟩ (qx_keep l dC dI cs adx mux okx H hPx (hDx.weaken (fun _ _ _ _ => trivial)) a1) (cwV 1 hts (wL_V mw_3_217 mw_3_214 mw_3_215 mw_3_216 mw_1_1) rfl rfl rfl (by decide +kernel) ⟨Nat.le_of_ble_eq_true rfl, Nat.le_of_ble_eq_true rfl⟩) ⟨sz_c, va_recv hKx hPx (ci := 11) (q0 := 0) rfl (gX_0 cs adx mux), sz_m hKx hz⟩ rfl rfl hl.1 rfl (lv_room (Nat.le_of_ble_eq_true rfl)) dL_law_989 ⟨Nat.le_of_ble_eq_true rfl, Nat.le_of_ble_eq_true rfl⟩) hS (fun q _ h => hFx q h) hFx (fun r1 xi1 t H1 locs ht hvm hw1 hB hz1 hk1 hS => ?_)
  obtain ⟨hfe1, okx, hw1, hkp1⟩ := hw1
  have hPx : va_P (dC, dI) vwCl (wR 157 adx (EX cs adx) xi1) H1 := by rw [← ht]; exact hB
  have hPm := kp_rest hD hPm hk1
  have hD : va_D (fun q : Nat => s.heap.size ≤ q) ((wR 157 adx (EX cs adx) xi1) ++ (wR 21 adm (EM cs adm) mum)) := wR_DD _ _ hD
  refine lv_pop hx hb dL_law_992 rfl ?_
  refine lv_aload_n hx hb dL_law_993 rfl (lv_at hl 1 rfl) ?_
  refine lv_aload_n hx hb dL_law_994 rfl (lv_at hl 3 rfl) ?_
  refine lv_iload_n hx hb dL_law_995 rfl (lv_at hl 0 rfl) ?_
  refine lv_iconst (v := 1) hx hb dL_law_996 (by decide) ?_
  refine lv_iadd hx hb dL_law_997 ?_
  refine lq_i t1 et1.symm ?_
  refine va_sld hx hb hX hbl hbA hS (show vp_in t1 L from vi_of (by omega) (by omega)) dL_law_998 ?_
  refine lq_i a1 ea1.symm ?_
  have hDx := dl_left hD
  have hDm := dl_right hD
  have hFm := fr_all hDm hS hA
  refine va_calli (va_runV (As := [.int a1]) (rest := []) ⟨hx, hb, hml, hown, hts⟩ (qm_keep l dC dI cs adm mum okm H1 hPm (hDm.weaken (fun _ _ _ _ => trivial)) a1) (cwV 1 hts (wL_V mw_6_158 mw_6_155 mw_6_156 mw_6_157 mw_1_13) rfl rfl rfl (by decide +kernel) ⟨Nat.le_of_ble_eq_true rfl, Nat.le_of_ble_eq_true rfl⟩) ⟨sz_c, va_recv hKm hPm (ci := 12) (q0 := 0) rfl (gM_0 cs adm mum), sz_m hKm hz⟩ rfl rfl hl.1 rfl (lv_room (Nat.le_of_ble_eq_true rfl)) dL_law_999 ⟨Nat.le_of_ble_eq_true rfl, Nat.le_of_ble_eq_true rfl⟩) hS (fun q _ h => hFm q h) hFm (fun r2 xi2 t H2 locs ht hvm hw2 hB hz1 hk1 hS => ?_)
  obtain ⟨hfe2, okm, hw2, hkp2⟩ := hw2
  have hPm : va_P (dC, dI) vwCl (wR 21 adm (EM cs adm) xi2) H2 := by rw [← ht]; exact hB
  have hPx := kp_rest (pm_D List.perm_append_comm hD) hPx hk1
  have hD : va_D (fun q : Nat => s.heap.size ≤ q) ((wR 157 adx (EX cs adx) xi1) ++ (wR 21 adm (EM cs adm) xi2)) := wR_DD _ _ hD
  refine lv_pop hx hb dL_law_1002 rfl ?_
  refine lv_goto (tgt := 1641) hx hb dL_law_1003 (by decide) ?_
  exact KE xi1 xi2 _ _ _ ⟨okx, okm, ⟨simT_keep (by decide) (by decide) hkp1 hkp2 hsim.1, (keep_rel okm0 hsim.2 hfe1 hfe2).2⟩, hPx, hPm, hD, hS, hl⟩
set_option maxHeartbeats 4000000 in
set_option maxRecDepth 100000 in
theorem le_24 {p : Program} {e : Env} {s : State} {m : MethodId} {below : List Frame} {meth : Method} {c : Code} (l : Launch) {b L : Nat} {xs : Nat → Int32} {dC : Nat → ClassId} {dI : Nat → Nat → Nat} {cs : Nat → ClassId} {tt : Nat} {adx adm : Nat → Nat} {i : Int32} (F1 : lw_F p s m meth c b L xs dC dI cs tt) {mux mum : Nat → Nat → Int32} {H : Heap} {locs : List Loc} {ls : Array Slot} (J0 : lw_J s b dC dI cs adx adm i mux mum H locs ls) (hL : L ≤ 384) (hi : 0 ≤ i.toInt ∧ i.toInt + 6 ≤ L) (KE : ∀ (mux mum : Nat → Nat → Int32) (H : Heap) (locs : List Loc) (ls : Array Slot), lw_J s b dC dI cs adx adm i mux mum H locs ls → W p l e room_1 s m #[Value.ref b] below meth c H locs 178 3099 (lw_Z below #[Value.ref b] s) (F0 m 1641 ls [])) : W p l e room_1 s m #[Value.ref b] below meth c H locs 178 3099 (lw_Z below #[Value.ref b] s) (F0 m 1006 ls []) := by
  have F2 := F1
  have J1 := J0
  obtain ⟨C0, hKx, hKm, hz, hks⟩ := F1
  obtain ⟨hx, hb, hr, hml, hown0, hts0, hX, hbl, hlocks, hgv⟩ := C0
  obtain ⟨okx, okm, hsim, hPx, hPm, hD, hS, hl⟩ := J0
  have okx0 := okx
  have okm0 := okm
  have hown : s.vm.findClass RL = some m.cls := hown0
  have hts := hts0
  have hbA : ¬ (fun q : Nat => s.heap.size ≤ q) b := Nat.not_le.mpr hbl
  have hA : ∀ q : Nat, s.heap.size ≤ q → (fun q : Nat => s.heap.size ≤ q) q := fun _ h => h
  refine lv_aload_n hx hb dL_law_1006 rfl (lv_at hl 2 rfl) ?_
  refine lv_aload_n hx hb dL_law_1007 rfl (lv_at hl 3 rfl) ?_
  refine lv_iload_n hx hb dL_law_1008 rfl (lv_at hl 0 rfl) ?_
  refine lv_iconst (v := 1) hx hb dL_law_1009 (by decide) ?_
  refine lv_iadd hx hb dL_law_1010 ?_
  refine lv_topi (fun t1 et1 => ?_)
  have at1 : t1.toInt = i.toInt + 1 := by rw [et1]; exact tI_add rfl (rfl : (1 : Int32).toInt = _) (by show _ ≤ i.toInt + (1 : Int); omega) (by show i.toInt + (1 : Int) < _; omega)
  refine va_sld hx hb hX hbl hbA hS (show vp_in t1 L from vi_of (by omega) (by omega)) dL_law_1011 ?_
  refine lv_topi (fun a1 ea1 => ?_)
  have hDx := dl_left hD
  have hDm := dl_right hD
  have hFx := fr_all hDx hS hA
  refine va_calli (va_runV (As := [.int a1]) (rest := []) ⟨hx, hb, hml, hown, hts⟩ (qx_on l dC dI cs adx mux okx H hPx (hDx.weaken (fun _ _ _ _ => trivial)) a1) (cwV 1 hts (wL_V mw_3_233 mw_3_230 mw_3_231 mw_3_232 mw_1_1) rfl rfl rfl (by decide +kernel) ⟨Nat.le_of_ble_eq_true rfl, Nat.le_of_ble_eq_true rfl⟩) ⟨sz_c, va_recv hKx hPx (ci := 11) (q0 := 0) rfl (gX_0 cs adx mux), sz_m hKx hz⟩ rfl rfl hl.1 rfl (lv_room (Nat.le_of_ble_eq_true rfl)) dL_law_1012 ⟨Nat.le_of_ble_eq_true rfl, Nat.le_of_ble_eq_true rfl⟩) hS (fun q _ h => hFx q h) hFx (fun r1 xi1 t H1 locs ht hvm hw1 hB hz1 hk1 hS => ?_)
  obtain ⟨hfe1, okx, hw1, hkp1⟩ := hw1
  have hPx : va_P (dC, dI) vwCl (wR 157 adx (EX cs adx) xi1) H1 := by rw [← ht]; exact hB
  have hPm := kp_rest hD hPm hk1
  have hD : va_D (fun q : Nat => s.heap.size ≤ q) ((wR 157 adx (EX cs adx) xi1) ++ (wR 21 adm (EM cs adm) mum)) := wR_DD _ _ hD
  refine lv_pop hx hb dL_law_1015 rfl ?_
  refine lv_aload_n hx hb dL_law_1016 rfl (lv_at hl 1 rfl) ?_
  refine lv_aload_n hx hb dL_law_1017 rfl (lv_at hl 3 rfl) ?_
  refine lv_iload_n hx hb dL_law_1018 rfl (lv_at hl 0 rfl) ?_
  refine lv_iconst (v := 1) hx hb dL_law_1019 (by decide) ?_
  refine lv_iadd hx hb dL_law_1020 ?_
  refine lq_i t1 et1.symm ?_
  refine va_sld hx hb hX hbl hbA hS (show vp_in t1 L from vi_of (by omega) (by omega)) dL_law_1021 ?_
  refine lq_i a1 ea1.symm ?_
  have hDx := dl_left hD
  have hDm := dl_right hD
  have hFm := fr_all hDm hS hA
  refine va_calli (va_runV (As := [.int a1]) (rest := []) ⟨hx, hb, hml, hown, hts⟩ (qm_on l dC dI cs adm mum okm H1 hPm (hDm.weaken (fun _ _ _ _ => trivial)) a1) (cwV 1 hts (wL_V mw_6_162 mw_6_159 mw_6_160 mw_6_161 mw_1_13) rfl rfl rfl (by decide +kernel) ⟨Nat.le_of_ble_eq_true rfl, Nat.le_of_ble_eq_true rfl⟩) ⟨sz_c, va_recv hKm hPm (ci := 12) (q0 := 0) rfl (gM_0 cs adm mum), sz_m hKm hz⟩ rfl rfl hl.1 rfl (lv_room (Nat.le_of_ble_eq_true rfl)) dL_law_1022 ⟨Nat.le_of_ble_eq_true rfl, Nat.le_of_ble_eq_true rfl⟩) hS (fun q _ h => hFm q h) hFm (fun r2 xi2 t H2 locs ht hvm hw2 hB hz1 hk1 hS => ?_)
  obtain ⟨hfe2, okm, hw2, hkp2⟩ := hw2
  have hPm : va_P (dC, dI) vwCl (wR 21 adm (EM cs adm) xi2) H2 := by rw [← ht]; exact hB
  have hPx := kp_rest (pm_D List.perm_append_comm hD) hPx hk1
  have hD : va_D (fun q : Nat => s.heap.size ≤ q) ((wR 157 adx (EX cs adx) xi1) ++ (wR 21 adm (EM cs adm) xi2)) := wR_DD _ _ hD
  refine lv_pop hx hb dL_law_1025 rfl ?_
  refine lv_goto (tgt := 1641) hx hb dL_law_1026 (by decide) ?_
  exact KE xi1 xi2 _ _ _ ⟨okx, okm, ⟨simT_keep (by decide) (by decide) hkp1 hkp2 hsim.1, (on_rel okm0 hsim.2 hfe1 hfe2).2⟩, hPx, hPm, hD, hS, hl⟩
set_option maxHeartbeats 4000000 in
set_option maxRecDepth 100000 in
theorem le_25 {p : Program} {e : Env} {s : State} {m : MethodId} {below : List Frame} {meth : Method} {c : Code} (l : Launch) {b L : Nat} {xs : Nat → Int32} {dC : Nat → ClassId} {dI : Nat → Nat → Nat} {cs : Nat → ClassId} {tt : Nat} {adx adm : Nat → Nat} {i : Int32} (F1 : lw_F p s m meth c b L xs dC dI cs tt) {mux mum : Nat → Nat → Int32} {H : Heap} {locs : List Loc} {ls : Array Slot} (J0 : lw_J s b dC dI cs adx adm i mux mum H locs ls) (hL : L ≤ 384) (hi : 0 ≤ i.toInt ∧ i.toInt + 6 ≤ L) (KE : ∀ (mux mum : Nat → Nat → Int32) (H : Heap) (locs : List Loc) (ls : Array Slot), lw_J s b dC dI cs adx adm i mux mum H locs ls → W p l e room_1 s m #[Value.ref b] below meth c H locs 178 3099 (lw_Z below #[Value.ref b] s) (F0 m 1641 ls [])) : W p l e room_1 s m #[Value.ref b] below meth c H locs 178 3099 (lw_Z below #[Value.ref b] s) (F0 m 1029 ls []) := by
  have F2 := F1
  have J1 := J0
  obtain ⟨C0, hKx, hKm, hz, hks⟩ := F1
  obtain ⟨hx, hb, hr, hml, hown0, hts0, hX, hbl, hlocks, hgv⟩ := C0
  obtain ⟨okx, okm, hsim, hPx, hPm, hD, hS, hl⟩ := J0
  have okx0 := okx
  have okm0 := okm
  have hown : s.vm.findClass RL = some m.cls := hown0
  have hts := hts0
  have hbA : ¬ (fun q : Nat => s.heap.size ≤ q) b := Nat.not_le.mpr hbl
  have hA : ∀ q : Nat, s.heap.size ≤ q → (fun q : Nat => s.heap.size ≤ q) q := fun _ h => h
  refine lv_aload_n hx hb dL_law_1029 rfl (lv_at hl 2 rfl) ?_
  refine lv_aload_n hx hb dL_law_1030 rfl (lv_at hl 3 rfl) ?_
  refine lv_iload_n hx hb dL_law_1031 rfl (lv_at hl 0 rfl) ?_
  refine lv_iconst (v := 1) hx hb dL_law_1032 (by decide) ?_
  refine lv_iadd hx hb dL_law_1033 ?_
  refine lv_topi (fun t1 et1 => ?_)
  have at1 : t1.toInt = i.toInt + 1 := by rw [et1]; exact tI_add rfl (rfl : (1 : Int32).toInt = _) (by show _ ≤ i.toInt + (1 : Int); omega) (by show i.toInt + (1 : Int) < _; omega)
  refine va_sld hx hb hX hbl hbA hS (show vp_in t1 L from vi_of (by omega) (by omega)) dL_law_1034 ?_
  refine lv_topi (fun a1 ea1 => ?_)
  refine lv_aload_n hx hb dL_law_1035 rfl (lv_at hl 3 rfl) ?_
  refine lv_iload_n hx hb dL_law_1036 rfl (lv_at hl 0 rfl) ?_
  refine lv_iconst (v := 2) hx hb dL_law_1037 (by decide) ?_
  refine lv_iadd hx hb dL_law_1038 ?_
  refine lv_topi (fun t2 et2 => ?_)
  have at2 : t2.toInt = i.toInt + 2 := by rw [et2]; exact tI_add rfl (rfl : (2 : Int32).toInt = _) (by show _ ≤ i.toInt + (2 : Int); omega) (by show i.toInt + (2 : Int) < _; omega)
  refine va_sld hx hb hX hbl hbA hS (show vp_in t2 L from vi_of (by omega) (by omega)) dL_law_1039 ?_
  refine lv_topi (fun a2 ea2 => ?_)
  have hDx := dl_left hD
  have hDm := dl_right hD
  have hFx := fr_all hDx hS hA
  refine va_calli (va_runV (As := [.int a1, .int a2]) (rest := []) ⟨hx, hb, hml, hown, hts⟩ (qx_cheapest l dC dI cs adx mux okx H hPx (hDx.weaken (fun _ _ _ _ => trivial)) a1 a2) (cwV 2 hts (wL_V mw_3_237 mw_3_234 mw_3_235 mw_3_236 mw_1_1) rfl rfl rfl (by decide +kernel) ⟨Nat.le_of_ble_eq_true rfl, Nat.le_of_ble_eq_true rfl⟩) ⟨sz_c, va_recv hKx hPx (ci := 11) (q0 := 0) rfl (gX_0 cs adx mux), sz_m hKx hz⟩ rfl rfl hl.1 rfl (lv_room (Nat.le_of_ble_eq_true rfl)) dL_law_1040 ⟨Nat.le_of_ble_eq_true rfl, Nat.le_of_ble_eq_true rfl⟩) hS (fun q _ h => hFx q h) hFx (fun r1 xi1 t H1 locs ht hvm hw1 hB hz1 hk1 hS => ?_)
  obtain ⟨okx, hw1, hkp1⟩ := hw1
  have hPx : va_P (dC, dI) vwCl (wR 157 adx (EX cs adx) xi1) H1 := by rw [← ht]; exact hB
  have hPm := kp_rest hD hPm hk1
  have hD : va_D (fun q : Nat => s.heap.size ≤ q) ((wR 157 adx (EX cs adx) xi1) ++ (wR 21 adm (EM cs adm) mum)) := wR_DD _ _ hD
  refine lv_pop hx hb dL_law_1043 rfl ?_
  refine lv_aload_n hx hb dL_law_1044 rfl (lv_at hl 1 rfl) ?_
  refine lv_aload_n hx hb dL_law_1045 rfl (lv_at hl 3 rfl) ?_
  refine lv_iload_n hx hb dL_law_1046 rfl (lv_at hl 0 rfl) ?_
  refine lv_iconst (v := 1) hx hb dL_law_1047 (by decide) ?_
  refine lv_iadd hx hb dL_law_1048 ?_
  refine lq_i t1 et1.symm ?_
  refine va_sld hx hb hX hbl hbA hS (show vp_in t1 L from vi_of (by omega) (by omega)) dL_law_1049 ?_
  refine lq_i a1 ea1.symm ?_
  refine lv_aload_n hx hb dL_law_1050 rfl (lv_at hl 3 rfl) ?_
  refine lv_iload_n hx hb dL_law_1051 rfl (lv_at hl 0 rfl) ?_
  refine lv_iconst (v := 2) hx hb dL_law_1052 (by decide) ?_
  refine lv_iadd hx hb dL_law_1053 ?_
  refine lq_i t2 et2.symm ?_
  refine va_sld hx hb hX hbl hbA hS (show vp_in t2 L from vi_of (by omega) (by omega)) dL_law_1054 ?_
  refine lq_i a2 ea2.symm ?_
  have hDx := dl_left hD
  have hDm := dl_right hD
  have hFm := fr_all hDm hS hA
  refine va_calli (va_runV (As := [.int a1, .int a2]) (rest := []) ⟨hx, hb, hml, hown, hts⟩ (qm_cheapest l dC dI cs adm mum okm H1 hPm (hDm.weaken (fun _ _ _ _ => trivial)) a1 a2) (cwV 2 hts (wL_V mw_6_166 mw_6_163 mw_6_164 mw_6_165 mw_1_13) rfl rfl rfl (by decide +kernel) ⟨Nat.le_of_ble_eq_true rfl, Nat.le_of_ble_eq_true rfl⟩) ⟨sz_c, va_recv hKm hPm (ci := 12) (q0 := 0) rfl (gM_0 cs adm mum), sz_m hKm hz⟩ rfl rfl hl.1 rfl (lv_room (Nat.le_of_ble_eq_true rfl)) dL_law_1055 ⟨Nat.le_of_ble_eq_true rfl, Nat.le_of_ble_eq_true rfl⟩) hS (fun q _ h => hFm q h) hFm (fun r2 xi2 t H2 locs ht hvm hw2 hB hz1 hk1 hS => ?_)
  obtain ⟨okm, hw2, hkp2⟩ := hw2
  have hPm : va_P (dC, dI) vwCl (wR 21 adm (EM cs adm) xi2) H2 := by rw [← ht]; exact hB
  have hPx := kp_rest (pm_D List.perm_append_comm hD) hPx hk1
  have hD : va_D (fun q : Nat => s.heap.size ≤ q) ((wR 157 adx (EX cs adx) xi1) ++ (wR 21 adm (EM cs adm) xi2)) := wR_DD _ _ hD
  refine lv_pop hx hb dL_law_1058 rfl ?_
  refine lv_goto (tgt := 1641) hx hb dL_law_1059 (by decide) ?_
  exact KE xi1 xi2 _ _ _ ⟨okx, okm, ⟨simT_keep (by decide) (by decide) hkp1 hkp2 hsim.1, core_keep okm0 (by decide) (by decide) hkp1 hkp2 hsim.2⟩, hPx, hPm, hD, hS, hl⟩
