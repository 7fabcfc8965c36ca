theorem fr_all {A0 : Nat → Prop} {ws : va_W} {H0 H : Heap} {locs : List Loc} (hD : va_D A0 ws) (hS : va_S A0 H0 H locs) (hA : ∀ q, H0.size ≤ q → A0 q) : ∀ q, va_A ws H.size q → A0 q := by
  intro q h
  rcases h with ⟨k, e, h⟩ | h
  · exact hD.2 k _ h
  · exact hA q (Nat.le_trans hS.1 h)
theorem kp_rest {A0 : Nat → Prop} {D : va_G} {cl : List vw_C} {w1 w2 : va_W} {H H1 : Heap} (hD : va_D A0 (w1 ++ w2)) (hP : va_P D cl w2 H) (hk : ∀ q : Nat, q < H.size → ¬ va_A w1 H.size q → H1[q]? = H[q]?) : va_P D cl w2 H1 := by
  refine hP.kept (fun k x hx => hk x.1 (hP k x hx).lt (fun h => ?_))
  rcases h with ⟨i, e, hi⟩ | h
  · have hlt : i < w1.length := (List.getElem?_eq_some_iff.mp hi).1
    have h1 : (w1 ++ w2)[i]? = some (x.1, e) := by rw [List.getElem?_append_left hlt]; exact hi
    have h2 : (w1 ++ w2)[w1.length + k]? = some x := by rw [List.getElem?_append_right (Nat.le_add_right _ _), Nat.add_sub_cancel_left]; exact hx
    have := hD.1 _ _ _ _ h1 h2 rfl
    omega
  · exact absurd (hP k x hx).lt (Nat.not_lt.mpr h)
theorem dl_left {A0 : Nat → Prop} {w1 w2 : va_W} (hD : va_D A0 (w1 ++ w2)) : va_D A0 w1 := by
  have ap : ∀ {i : Nat} {q : Nat × va_E}, w1[i]? = some q → (w1 ++ w2)[i]? = some q := fun {i q} h => by
    rw [List.getElem?_append_left (List.getElem?_eq_some_iff.mp h).1]; exact h
  exact ⟨fun i j p q h1 h2 e => hD.1 i j p q (ap h1) (ap h2) e, fun k q h => hD.2 k q (ap h)⟩
theorem dl_right {A0 : Nat → Prop} {w1 w2 : va_W} (hD : va_D A0 (w1 ++ w2)) : va_D A0 w2 := by
  have ap : ∀ {i : Nat} {q : Nat × va_E}, w2[i]? = some q → (w1 ++ w2)[w1.length + i]? = some q := fun {i q} h => by
    rw [List.getElem?_append_right (Nat.le_add_right _ _), Nat.add_sub_cancel_left]; exact h
  exact ⟨fun i j p q h1 h2 e => by have := hD.1 _ _ p q (ap h1) (ap h2) e; omega, fun k q h => hD.2 _ q (ap h)⟩
theorem lg_same {x y : Int64} (h : x = y) : lg_cmp x y = 0 := by
  subst h
  simp [lg_cmp]
/-- at the head of a case of the law: both objects are new, six ints -/
def lw_S (p : Program) (s : State) (m : MethodId) (meth : Method) (c : Code) (b : Nat) (xs : Nat → Int32) (dC : Nat → ClassId) (dI : Nat → Nat → Nat) (csx csm : Nat → ClassId) (adx adm : Nat → Nat) (H : Heap) (locs : List Loc) (ls : Array Slot) : Prop :=
  lw_At p s m meth c b 6 xs ∧ va_K (dC, dI) vwCl (tyX csx) s ∧ va_K (dC, dI) vwCl (tyM csm) s ∧ va_P (dC, dI) vwCl (wX csx adx) H ∧ va_P (dC, dI) vwCl (wM csm adm 0) H ∧ va_D (fun q : Nat => s.heap.size ≤ q) (wX csx adx ++ wM csm adm 0) ∧ va_S (fun q : Nat => s.heap.size ≤ q) s.heap H locs ∧ lv_has ls 4 [(3, .int 0), (2, .ref (adm 0)), (1, .ref (adx 0)), (0, .ref b)]

set_option maxHeartbeats 4000000 in
set_option maxRecDepth 100000 in
theorem le_end {p : Program} {e : Env} {s : State} {m : MethodId} {below : List Frame} {meth : Method} {c : Code} (l : Launch) {b : Nat} {xs : Nat → Int32} {adx adm : Nat → Nat} {H : Heap} {locs : List Loc} {ls : Array Slot} (C0 : lw_At p s m meth c b 6 xs) (hS : va_S (fun q : Nat => s.heap.size ≤ q) s.heap H locs) (hl : lv_has ls 4 [(3, .int 0), (2, .ref (adm 0)), (1, .ref (adx 0)), (0, .ref b)]) : W p l e room_1 s m #[Value.ref b] below meth c H locs 178 3099 (lw_Z below #[Value.ref b] s) (F0 m 1644 ls []) := by
  obtain ⟨hx, hb, hr, hml, hown, hts, hX, hbl, hlocks, hgv⟩ := C0
  have hbA : ¬ (fun q : Nat => s.heap.size ≤ q) b := Nat.not_le.mpr hbl
  refine lv_iinc (v := 6) (lv' := [(3, .int 6), (2, .ref (adm 0)), (1, .ref (adx 0)), (0, .ref b)]) hx hb dL_law_1644 hl (k := 0) rfl (by decide) (by decide) rfl (fun ls hl => ?_)
  refine lv_goto (tgt := 18) hx hb dL_law_1647 (by decide) ?_
  refine lv_iload_n hx hb dL_law_18 rfl (lv_at hl 0 rfl) ?_
  refine lv_aload_n hx hb dL_law_19 rfl (lv_at hl 3 rfl) ?_
  refine va_slen hx hb hX hbl hbA hS dL_law_20 ?_
  refine lq_i 6 (by decide) ?_
  refine lv_bipush (v := 6) hx hb dL_law_21 (by decide) ?_
  refine lv_isub hx hb dL_law_23 ?_
  refine lq_i 0 (by decide) ?_
  refine lv_icmp_gt (tgt := 1650) hx hb dL_law_24 (by decide) (fun _ => ?_) (fun c => absurd (by decide) c)
  refine lv_iconst (v := 1) hx hb dL_law_1650 (by decide) ?_
  refine va_forget (fun q hq => hS.2.2 q hq) ?_
  refine W.widen (k := 600000) (n := 7302250) (Nat.le_of_ble_eq_true rfl) (Nat.le_of_ble_eq_true rfl) ?_
  exact lw_ret hx hb hr hlocks dL_law_1651
set_option maxHeartbeats 4000000 in
set_option maxRecDepth 100000 in
theorem le_0 {p : Program} {e : Env} {s : State} {m : MethodId} {below : List Frame} {meth : Method} {c : Code} (l : Launch) {b : Nat} {xs : Nat → Int32} {dC : Nat → ClassId} {dI : Nat → Nat → Nat} {csx csm : Nat → ClassId} {adx adm : Nat → Nat} {H : Heap} {locs : List Loc} {ls : Array Slot} (S0 : lw_S p s m meth c b xs dC dI csx csm adx adm H locs ls) : W p l e room_1 s m #[Value.ref b] below meth c H locs 178 3099 (lw_Z below #[Value.ref b] s) (F0 m 244 ls []) := by
  obtain ⟨C0, hKx, hKm, hPx, hPm, hD, hS, hl⟩ := S0
  have C1 := C0
  obtain ⟨hx, hb, hr, hml, hown0, hts0, hX, hbl, hlocks, hgv⟩ := C0
  have hown : s.vm.findClass RL = some m.cls := hown0
  have hts := hts0
  have hbA : ¬ (fun q : Nat => s.heap.size ≤ q) b := Nat.not_le.mpr hbl
  have hA : ∀ q : Nat, s.heap.size ≤ q → (fun q : Nat => s.heap.size ≤ q) q := fun _ h => h
  have hDx := dl_left hD
  have hDm := dl_right hD
  refine lv_aload_n hx hb dL_law_244 rfl (lv_at hl 2 rfl) ?_
  refine lv_aload_n hx hb dL_law_245 rfl (lv_at hl 3 rfl) ?_
  refine lv_iload_n hx hb dL_law_246 rfl (lv_at hl 0 rfl) ?_
  refine lv_iconst (v := 1) hx hb dL_law_247 (by decide) ?_
  refine lv_iadd hx hb dL_law_248 ?_
  refine lq_i 1 (by decide) ?_
  refine va_sld hx hb hX hbl hbA hS (show vp_in 1 6 by unfold vp_in; decide) dL_law_249 ?_
  refine lq_i (xs 1) rfl ?_
  refine lv_aload_n hx hb dL_law_250 rfl (lv_at hl 3 rfl) ?_
  refine lv_iload_n hx hb dL_law_251 rfl (lv_at hl 0 rfl) ?_
  refine lv_iconst (v := 2) hx hb dL_law_252 (by decide) ?_
  refine lv_iadd hx hb dL_law_253 ?_
  refine lq_i 2 (by decide) ?_
  refine va_sld hx hb hX hbl hbA hS (show vp_in 2 6 by unfold vp_in; decide) dL_law_254 ?_
  refine lq_i (xs 2) rfl ?_
  have hFx := fr_all hDx hS hA
  refine va_calli (va_runV (As := [.int (xs 1), .int (xs 2)]) (rest := []) ⟨hx, hb, hml, hown, hts⟩ (px_row l dC dI csx adx H hPx (hDx.weaken (fun _ _ _ _ => trivial)) (xs 1) (xs 2)) (cwV 2 hts gq_X11_row rfl rfl rfl (by decide +kernel) ⟨Nat.le_of_ble_eq_true rfl, Nat.le_of_ble_eq_true rfl⟩) ⟨pb_c, va_recv hKx hPx (ci := 11) (q0 := 0) rfl rfl, pb_m hKx⟩ rfl rfl hl.1 rfl (lv_room (Nat.le_of_ble_eq_true rfl)) dL_law_255 ⟨Nat.le_of_ble_eq_true rfl, Nat.le_of_ble_eq_true rfl⟩) hS (fun q _ h => hFx q h) hFx (fun r1 u t H1 locs ht hvm hw1 hB hz1 hk1 hS => ?_)
  have hPm := kp_rest hD hPm hk1
  refine lv_aload_n hx hb dL_law_258 rfl (lv_at hl 1 rfl) ?_
  refine lv_aload_n hx hb dL_law_259 rfl (lv_at hl 3 rfl) ?_
  refine lv_iload_n hx hb dL_law_260 rfl (lv_at hl 0 rfl) ?_
  refine lv_iconst (v := 1) hx hb dL_law_261 (by decide) ?_
  refine lv_iadd hx hb dL_law_262 ?_
  refine lq_i 1 (by decide) ?_
  refine va_sld hx hb hX hbl hbA hS (show vp_in 1 6 by unfold vp_in; decide) dL_law_263 ?_
  refine lq_i (xs 1) rfl ?_
  refine lv_aload_n hx hb dL_law_264 rfl (lv_at hl 3 rfl) ?_
  refine lv_iload_n hx hb dL_law_265 rfl (lv_at hl 0 rfl) ?_
  refine lv_iconst (v := 2) hx hb dL_law_266 (by decide) ?_
  refine lv_iadd hx hb dL_law_267 ?_
  refine lq_i 2 (by decide) ?_
  refine va_sld hx hb hX hbl hbA hS (show vp_in 2 6 by unfold vp_in; decide) dL_law_268 ?_
  refine lq_i (xs 2) rfl ?_
  have hFm := fr_all hDm hS hA
  refine va_calli (va_runV (As := [.int (xs 1), .int (xs 2)]) (rest := [.int r1]) ⟨hx, hb, hml, hown, hts⟩ (pm_row l dC dI csm adm H1 hPm (hDm.weaken (fun _ _ _ _ => trivial)) (xs 1) (xs 2)) (cwV 2 hts gq_X12_row rfl rfl rfl (by decide +kernel) ⟨Nat.le_of_ble_eq_true rfl, Nat.le_of_ble_eq_true rfl⟩) ⟨pb_c, va_recv hKm hPm (ci := 12) (q0 := 0) rfl rfl, pb_m hKm⟩ rfl rfl hl.1 rfl (lv_room (Nat.le_of_ble_eq_true rfl)) dL_law_269 ⟨Nat.le_of_ble_eq_true rfl, Nat.le_of_ble_eq_true rfl⟩) hS (fun q _ h => hFm q h) hFm (fun r2 u t H2 locs ht hvm hw2 hB hz1 hk1 hS => ?_)
  refine lv_icmp_eq (tgt := 1644) hx hb dL_law_272 (by decide) (fun _ => ?_) (fun c => absurd (hw1.trans hw2.symm) c)
  exact le_end l C1 hS hl
set_option maxHeartbeats 4000000 in
set_option maxRecDepth 100000 in
theorem le_1 {p : Program} {e : Env} {s : State} {m : MethodId} {below : List Frame} {meth : Method} {c : Code} (l : Launch) {b : Nat} {xs : Nat → Int32} {dC : Nat → ClassId} {dI : Nat → Nat → Nat} {csx csm : Nat → ClassId} {adx adm : Nat → Nat} {H : Heap} {locs : List Loc} {ls : Array Slot} (S0 : lw_S p s m meth c b xs dC dI csx csm adx adm H locs ls) : W p l e room_1 s m #[Value.ref b] below meth c H locs 178 3099 (lw_Z below #[Value.ref b] s) (F0 m 277 ls []) := by
  obtain ⟨C0, hKx, hKm, hPx, hPm, hD, hS, hl⟩ := S0
  have C1 := C0
  obtain ⟨hx, hb, hr, hml, hown0, hts0, hX, hbl, hlocks, hgv⟩ := C0
  have hown : s.vm.findClass RL = some m.cls := hown0
  have hts := hts0
  have hbA : ¬ (fun q : Nat => s.heap.size ≤ q) b := Nat.not_le.mpr hbl
  have hA : ∀ q : Nat, s.heap.size ≤ q → (fun q : Nat => s.heap.size ≤ q) q := fun _ h => h
  have hDx := dl_left hD
  have hDm := dl_right hD
  refine lv_aload_n hx hb dL_law_277 rfl (lv_at hl 2 rfl) ?_
  refine lv_aload_n hx hb dL_law_278 rfl (lv_at hl 3 rfl) ?_
  refine lv_iload_n hx hb dL_law_279 rfl (lv_at hl 0 rfl) ?_
  refine lv_iconst (v := 1) hx hb dL_law_280 (by decide) ?_
  refine lv_iadd hx hb dL_law_281 ?_
  refine lq_i 1 (by decide) ?_
  refine va_sld hx hb hX hbl hbA hS (show vp_in 1 6 by unfold vp_in; decide) dL_law_282 ?_
  refine lq_i (xs 1) rfl ?_
  refine lv_aload_n hx hb dL_law_283 rfl (lv_at hl 3 rfl) ?_
  refine lv_iload_n hx hb dL_law_284 rfl (lv_at hl 0 rfl) ?_
  refine lv_iconst (v := 2) hx hb dL_law_285 (by decide) ?_
  refine lv_iadd hx hb dL_law_286 ?_
  refine lq_i 2 (by decide) ?_
  refine va_sld hx hb hX hbl hbA hS (show vp_in 2 6 by unfold vp_in; decide) dL_law_287 ?_
  refine lq_i (xs 2) rfl ?_
  refine lv_aload_n hx hb dL_law_288 rfl (lv_at hl 3 rfl) ?_
  refine lv_iload_n hx hb dL_law_289 rfl (lv_at hl 0 rfl) ?_
  refine lv_iconst (v := 3) hx hb dL_law_290 (by decide) ?_
  refine lv_iadd hx hb dL_law_291 ?_
  refine lq_i 3 (by decide) ?_
  refine va_sld hx hb hX hbl hbA hS (show vp_in 3 6 by unfold vp_in; decide) dL_law_292 ?_
  refine lq_i (xs 3) rfl ?_
  have hFx := fr_all hDx hS hA
  refine va_calli (va_runV (As := [.int (xs 1), .int (xs 2), .int (xs 3)]) (rest := []) ⟨hx, hb, hml, hown, hts⟩ (px_lay l dC dI csx adx H hPx (hDx.weaken (fun _ _ _ _ => trivial)) (xs 1) (xs 2) (xs 3)) (cwV 3 hts gq_X11_lay rfl rfl rfl (by decide +kernel) ⟨Nat.le_of_ble_eq_true rfl, Nat.le_of_ble_eq_true rfl⟩) ⟨pb_c, va_recv hKx hPx (ci := 11) (q0 := 0) rfl rfl, pb_m hKx⟩ rfl rfl hl.1 rfl (lv_room (Nat.le_of_ble_eq_true rfl)) dL_law_293 ⟨Nat.le_of_ble_eq_true rfl, Nat.le_of_ble_eq_true rfl⟩) hS (fun q _ h => hFx q h) hFx (fun r1 u t H1 locs ht hvm hw1 hB hz1 hk1 hS => ?_)
  have hPm := kp_rest hD hPm hk1
  refine lv_aload_n hx hb dL_law_296 rfl (lv_at hl 1 rfl) ?_
  refine lv_aload_n hx hb dL_law_297 rfl (lv_at hl 3 rfl) ?_
  refine lv_iload_n hx hb dL_law_298 rfl (lv_at hl 0 rfl) ?_
  refine lv_iconst (v := 1) hx hb dL_law_299 (by decide) ?_
  refine lv_iadd hx hb dL_law_300 ?_
  refine lq_i 1 (by decide) ?_
  refine va_sld hx hb hX hbl hbA hS (show vp_in 1 6 by unfold vp_in; decide) dL_law_301 ?_
  refine lq_i (xs 1) rfl ?_
  refine lv_aload_n hx hb dL_law_302 rfl (lv_at hl 3 rfl) ?_
  refine lv_iload_n hx hb dL_law_303 rfl (lv_at hl 0 rfl) ?_
  refine lv_iconst (v := 2) hx hb dL_law_304 (by decide) ?_
  refine lv_iadd hx hb dL_law_305 ?_
  refine lq_i 2 (by decide) ?_
  refine va_sld hx hb hX hbl hbA hS (show vp_in 2 6 by unfold vp_in; decide) dL_law_306 ?_
  refine lq_i (xs 2) rfl ?_
  refine lv_aload_n hx hb dL_law_307 rfl (lv_at hl 3 rfl) ?_
  refine lv_iload_n hx hb dL_law_308 rfl (lv_at hl 0 rfl) ?_
  refine lv_iconst (v := 3) hx hb dL_law_309 (by decide) ?_
  refine lv_iadd hx hb dL_law_310 ?_
  refine lq_i 3 (by decide) ?_
  refine va_sld hx hb hX hbl hbA hS (show vp_in 3 6 by unfold vp_in; decide) dL_law_311 ?_
  refine lq_i (xs 3) rfl ?_
  have hFm := fr_all hDm hS hA
  refine va_calli (va_runV (As := [.int (xs 1), .int (xs 2), .int (xs 3)]) (rest := [.int r1]) ⟨hx, hb, hml, hown, hts⟩ (pm_lay l dC dI csm adm H1 hPm (hDm.weaken (fun _ _ _ _ => trivial)) (xs 1) (xs 2) (xs 3)) (cwV 3 hts gq_X12_lay rfl rfl rfl (by decide +kernel) ⟨Nat.le_of_ble_eq_true rfl, Nat.le_of_ble_eq_true rfl⟩) ⟨pb_c, va_recv hKm hPm (ci := 12) (q0 := 0) rfl rfl, pb_m hKm⟩ rfl rfl hl.1 rfl (lv_room (Nat.le_of_ble_eq_true rfl)) dL_law_312 ⟨Nat.le_of_ble_eq_true rfl, Nat.le_of_ble_eq_true rfl⟩) hS (fun q _ h => hFm q h) hFm (fun r2 u t H2 locs ht hvm hw2 hB hz1 hk1 hS => ?_)
  refine lv_icmp_eq (tgt := 1644) hx hb dL_law_315 (by decide) (fun _ => ?_) (fun c => absurd (hw1.trans hw2.symm) c)
  exact le_end l C1 hS hl
set_option maxHeartbeats 4000000 in
set_option maxRecDepth 100000 in
theorem le_2 {p : Program} {e : Env} {s : State} {m : MethodId} {below : List Frame} {meth : Method} {c : Code} (l : Launch) {b : Nat} {xs : Nat → Int32} {dC : Nat → ClassId} {dI : Nat → Nat → Nat} {csx csm : Nat → ClassId} {adx adm : Nat → Nat} {H : Heap} {locs : List Loc} {ls : Array Slot} (S0 : lw_S p s m meth c b xs dC dI csx csm adx adm H locs ls) : W p l e room_1 s m #[Value.ref b] below meth c H locs 178 3099 (lw_Z below #[Value.ref b] s) (F0 m 320 ls []) := by
  obtain ⟨C0, hKx, hKm, hPx, hPm, hD, hS, hl⟩ := S0
  have C1 := C0
  obtain ⟨hx, hb, hr, hml, hown0, hts0, hX, hbl, hlocks, hgv⟩ := C0
  have hown : s.vm.findClass RL = some m.cls := hown0
  have hts := hts0
  have hbA : ¬ (fun q : Nat => s.heap.size ≤ q) b := Nat.not_le.mpr hbl
  have hA : ∀ q : Nat, s.heap.size ≤ q → (fun q : Nat => s.heap.size ≤ q) q := fun _ h => h
  have hDx := dl_left hD
  have hDm := dl_right hD
  refine lv_aload_n hx hb dL_law_320 rfl (lv_at hl 2 rfl) ?_
  refine lv_aload_n hx hb dL_law_321 rfl (lv_at hl 3 rfl) ?_
  refine lv_iload_n hx hb dL_law_322 rfl (lv_at hl 0 rfl) ?_
  refine lv_iconst (v := 1) hx hb dL_law_323 (by decide) ?_
  refine lv_iadd hx hb dL_law_324 ?_
  refine lq_i 1 (by decide) ?_
  refine va_sld hx hb hX hbl hbA hS (show vp_in 1 6 by unfold vp_in; decide) dL_law_325 ?_
  refine lq_i (xs 1) rfl ?_
  refine lv_aload_n hx hb dL_law_326 rfl (lv_at hl 3 rfl) ?_
  refine lv_iload_n hx hb dL_law_327 rfl (lv_at hl 0 rfl) ?_
  refine lv_iconst (v := 2) hx hb dL_law_328 (by decide) ?_
  refine lv_iadd hx hb dL_law_329 ?_
  refine lq_i 2 (by decide) ?_
  refine va_sld hx hb hX hbl hbA hS (show vp_in 2 6 by unfold vp_in; decide) dL_law_330 ?_
  refine lq_i (xs 2) rfl ?_
  have hFx := fr_all hDx hS hA
  refine va_calli (va_runV (As := [.int (xs 1), .int (xs 2)]) (rest := []) ⟨hx, hb, hml, hown, hts⟩ (px_at l dC dI csx adx H hPx (hDx.weaken (fun _ _ _ _ => trivial)) (xs 1) (xs 2)) (cwV 2 hts gq_X11_at rfl rfl rfl (by decide +kernel) ⟨Nat.le_of_ble_eq_true rfl, Nat.le_of_ble_eq_true rfl⟩) ⟨pb_c, va_recv hKx hPx (ci := 11) (q0 := 0) rfl rfl, pb_m hKx⟩ rfl rfl hl.1 rfl (lv_room (Nat.le_of_ble_eq_true rfl)) dL_law_331 ⟨Nat.le_of_ble_eq_true rfl, Nat.le_of_ble_eq_true rfl⟩) hS (fun q _ h => hFx q h) hFx (fun r1 u t H1 locs ht hvm hw1 hB hz1 hk1 hS => ?_)
  have hPm := kp_rest hD hPm hk1
  refine lv_aload_n hx hb dL_law_334 rfl (lv_at hl 1 rfl) ?_
  refine lv_aload_n hx hb dL_law_335 rfl (lv_at hl 3 rfl) ?_
  refine lv_iload_n hx hb dL_law_336 rfl (lv_at hl 0 rfl) ?_
  refine lv_iconst (v := 1) hx hb dL_law_337 (by decide) ?_
  refine lv_iadd hx hb dL_law_338 ?_
  refine lq_i 1 (by decide) ?_
  refine va_sld hx hb hX hbl hbA hS (show vp_in 1 6 by unfold vp_in; decide) dL_law_339 ?_
  refine lq_i (xs 1) rfl ?_
  refine lv_aload_n hx hb dL_law_340 rfl (lv_at hl 3 rfl) ?_
  refine lv_iload_n hx hb dL_law_341 rfl (lv_at hl 0 rfl) ?_
  refine lv_iconst (v := 2) hx hb dL_law_342 (by decide) ?_
  refine lv_iadd hx hb dL_law_343 ?_
  refine lq_i 2 (by decide) ?_
  refine va_sld hx hb hX hbl hbA hS (show vp_in 2 6 by unfold vp_in; decide) dL_law_344 ?_
  refine lq_i (xs 2) rfl ?_
  have hFm := fr_all hDm hS hA
  refine va_calli (va_runV (As := [.int (xs 1), .int (xs 2)]) (rest := [.int r1]) ⟨hx, hb, hml, hown, hts⟩ (pm_at l dC dI csm adm H1 hPm (hDm.weaken (fun _ _ _ _ => trivial)) (xs 1) (xs 2)) (cwV 2 hts gq_X12_at rfl rfl rfl (by decide +kernel) ⟨Nat.le_of_ble_eq_true rfl, Nat.le_of_ble_eq_true rfl⟩) ⟨pb_c, va_recv hKm hPm (ci := 12) (q0 := 0) rfl rfl, pb_m hKm⟩ rfl rfl hl.1 rfl (lv_room (Nat.le_of_ble_eq_true rfl)) dL_law_345 ⟨Nat.le_of_ble_eq_true rfl, Nat.le_of_ble_eq_true rfl⟩) hS (fun q _ h => hFm q h) hFm (fun r2 u t H2 locs ht hvm hw2 hB hz1 hk1 hS => ?_)
  refine lv_icmp_eq (tgt := 1644) hx hb dL_law_348 (by decide) (fun _ => ?_) (fun c => absurd (hw1.trans hw2.symm) c)
  exact le_end l C1 hS hl
set_option maxHeartbeats 4000000 in
set_option maxRecDepth 100000 in
theorem le_3 {p : Program} {e : Env} {s : State} {m : MethodId} {below : List Frame} {meth : Method} {c : Code} (l : Launch) {b : Nat} {xs : Nat → Int32} {dC : Nat → ClassId} {dI : Nat → Nat → Nat} {csx csm : Nat → ClassId} {adx adm : Nat → Nat} {H : Heap} {locs : List Loc} {ls : Array Slot} (S0 : lw_S p s m meth c b xs dC dI csx csm adx adm H locs ls) : W p l e room_1 s m #[Value.ref b] below meth c H locs 178 3099 (lw_Z below #[Value.ref b] s) (F0 m 353 ls []) := by
  obtain ⟨C0, hKx, hKm, hPx, hPm, hD, hS, hl⟩ := S0
  have C1 := C0
  obtain ⟨hx, hb, hr, hml, hown0, hts0, hX, hbl, hlocks, hgv⟩ := C0
  have hown : s.vm.findClass RL = some m.cls := hown0
  have hts := hts0
  have hbA : ¬ (fun q : Nat => s.heap.size ≤ q) b := Nat.not_le.mpr hbl
  have hA : ∀ q : Nat, s.heap.size ≤ q → (fun q : Nat => s.heap.size ≤ q) q := fun _ h => h
  have hDx := dl_left hD
  have hDm := dl_right hD
  refine lv_aload_n hx hb dL_law_353 rfl (lv_at hl 2 rfl) ?_
  refine lv_aload_n hx hb dL_law_354 rfl (lv_at hl 3 rfl) ?_
  refine lv_iload_n hx hb dL_law_355 rfl (lv_at hl 0 rfl) ?_
  refine lv_iconst (v := 1) hx hb dL_law_356 (by decide) ?_
  refine lv_iadd hx hb dL_law_357 ?_
  refine lq_i 1 (by decide) ?_
  refine va_sld hx hb hX hbl hbA hS (show vp_in 1 6 by unfold vp_in; decide) dL_law_358 ?_
  refine lq_i (xs 1) rfl ?_
  have hFx := fr_all hDx hS hA
  refine va_calli (va_runV (As := [.int (xs 1)]) (rest := []) ⟨hx, hb, hml, hown, hts⟩ (px_tear l dC dI csx adx H hPx (hDx.weaken (fun _ _ _ _ => trivial)) (xs 1)) (cwV 1 hts gq_X11_tear rfl rfl rfl (by decide +kernel) ⟨Nat.le_of_ble_eq_true rfl, Nat.le_of_ble_eq_true rfl⟩) ⟨pb_c, va_recv hKx hPx (ci := 11) (q0 := 0) rfl rfl, pb_m hKx⟩ rfl rfl hl.1 rfl (lv_room (Nat.le_of_ble_eq_true rfl)) dL_law_359 ⟨Nat.le_of_ble_eq_true rfl, Nat.le_of_ble_eq_true rfl⟩) hS (fun q _ h => hFx q h) hFx (fun r1 u t H1 locs ht hvm hw1 hB hz1 hk1 hS => ?_)
  have hPm := kp_rest hD hPm hk1
  refine lv_aload_n hx hb dL_law_362 rfl (lv_at hl 1 rfl) ?_
  refine lv_aload_n hx hb dL_law_363 rfl (lv_at hl 3 rfl) ?_
  refine lv_iload_n hx hb dL_law_364 rfl (lv_at hl 0 rfl) ?_
  refine lv_iconst (v := 1) hx hb dL_law_365 (by decide) ?_
  refine lv_iadd hx hb dL_law_366 ?_
  refine lq_i 1 (by decide) ?_
  refine va_sld hx hb hX hbl hbA hS (show vp_in 1 6 by unfold vp_in; decide) dL_law_367 ?_
  refine lq_i (xs 1) rfl ?_
  have hFm := fr_all hDm hS hA
  refine va_calli (va_runV (As := [.int (xs 1)]) (rest := [.int r1]) ⟨hx, hb, hml, hown, hts⟩ (pm_tear l dC dI csm adm H1 hPm (hDm.weaken (fun _ _ _ _ => trivial)) (xs 1)) (cwV 1 hts gq_X12_tear rfl rfl rfl (by decide +kernel) ⟨Nat.le_of_ble_eq_true rfl, Nat.le_of_ble_eq_true rfl⟩) ⟨pb_c, va_recv hKm hPm (ci := 12) (q0 := 0) rfl rfl, pb_m hKm⟩ rfl rfl hl.1 rfl (lv_room (Nat.le_of_ble_eq_true rfl)) dL_law_368 ⟨Nat.le_of_ble_eq_true rfl, Nat.le_of_ble_eq_true rfl⟩) hS (fun q _ h => hFm q h) hFm (fun r2 u t H2 locs ht hvm hw2 hB hz1 hk1 hS => ?_)
  refine lv_icmp_eq (tgt := 1644) hx hb dL_law_371 (by decide) (fun _ => ?_) (fun c => absurd (hw1.trans hw2.symm) c)
  exact le_end l C1 hS hl
set_option maxHeartbeats 4000000 in
set_option maxRecDepth 100000 in
theorem le_4 {p : Program} {e : Env} {s : State} {m : MethodId} {below : List Frame} {meth : Method} {c : Code} (l : Launch) {b : Nat} {xs : Nat → Int32} {dC : Nat → ClassId} {dI : Nat → Nat → Nat} {csx csm : Nat → ClassId} {adx adm : Nat → Nat} {H : Heap} {locs : List Loc} {ls : Array Slot} (S0 : lw_S p s m meth c b xs dC dI csx csm adx adm H locs ls) : W p l e room_1 s m #[Value.ref b] below meth c H locs 178 3099 (lw_Z below #[Value.ref b] s) (F0 m 376 ls []) := by
  obtain ⟨C0, hKx, hKm, hPx, hPm, hD, hS, hl⟩ := S0
  have C1 := C0
  obtain ⟨hx, hb, hr, hml, hown0, hts0, hX, hbl, hlocks, hgv⟩ := C0
  have hown : s.vm.findClass RL = some m.cls := hown0
  have hts := hts0
  have hbA : ¬ (fun q : Nat => s.heap.size ≤ q) b := Nat.not_le.mpr hbl
  have hA : ∀ q : Nat, s.heap.size ≤ q → (fun q : Nat => s.heap.size ≤ q) q := fun _ h => h
  have hDx := dl_left hD
  have hDm := dl_right hD
  refine lv_aload_n hx hb dL_law_376 rfl (lv_at hl 2 rfl) ?_
  refine lv_aload_n hx hb dL_law_377 rfl (lv_at hl 3 rfl) ?_
  refine lv_iload_n hx hb dL_law_378 rfl (lv_at hl 0 rfl) ?_
  refine lv_iconst (v := 1) hx hb dL_law_379 (by decide) ?_
  refine lv_iadd hx hb dL_law_380 ?_
  refine lq_i 1 (by decide) ?_
  refine va_sld hx hb hX hbl hbA hS (show vp_in 1 6 by unfold vp_in; decide) dL_law_381 ?_
  refine lq_i (xs 1) rfl ?_
  refine lv_aload_n hx hb dL_law_382 rfl (lv_at hl 3 rfl) ?_
  refine lv_iload_n hx hb dL_law_383 rfl (lv_at hl 0 rfl) ?_
  refine lv_iconst (v := 2) hx hb dL_law_384 (by decide) ?_
  refine lv_iadd hx hb dL_law_385 ?_
  refine lq_i 2 (by decide) ?_
  refine va_sld hx hb hX hbl hbA hS (show vp_in 2 6 by unfold vp_in; decide) dL_law_386 ?_
  refine lq_i (xs 2) rfl ?_
  refine lv_aload_n hx hb dL_law_387 rfl (lv_at hl 3 rfl) ?_
  refine lv_iload_n hx hb dL_law_388 rfl (lv_at hl 0 rfl) ?_
  refine lv_iconst (v := 3) hx hb dL_law_389 (by decide) ?_
  refine lv_iadd hx hb dL_law_390 ?_
  refine lq_i 3 (by decide) ?_
  refine va_sld hx hb hX hbl hbA hS (show vp_in 3 6 by unfold vp_in; decide) dL_law_391 ?_
  refine lq_i (xs 3) rfl ?_
  refine lv_aload_n hx hb dL_law_392 rfl (lv_at hl 3 rfl) ?_
  refine lv_iload_n hx hb dL_law_393 rfl (lv_at hl 0 rfl) ?_
  refine lv_iconst (v := 4) hx hb dL_law_394 (by decide) ?_
  refine lv_iadd hx hb dL_law_395 ?_
  refine lq_i 4 (by decide) ?_
  refine va_sld hx hb hX hbl hbA hS (show vp_in 4 6 by unfold vp_in; decide) dL_law_396 ?_
  refine lq_i (xs 4) rfl ?_
  refine lv_aload_n hx hb dL_law_397 rfl (lv_at hl 3 rfl) ?_
  refine lv_iload_n hx hb dL_law_398 rfl (lv_at hl 0 rfl) ?_
  refine lv_iconst (v := 5) hx hb dL_law_399 (by decide) ?_
  refine lv_iadd hx hb dL_law_400 ?_
  refine lq_i 5 (by decide) ?_
  refine va_sld hx hb hX hbl hbA hS (show vp_in 5 6 by unfold vp_in; decide) dL_law_401 ?_
  refine lq_i (xs 5) rfl ?_
  have hFx := fr_all hDx hS hA
  refine va_calli (va_runV (As := [.int (xs 1), .int (xs 2), .int (xs 3), .int (xs 4), .int (xs 5)]) (rest := []) ⟨hx, hb, hml, hown, hts⟩ (px_copy l dC dI csx adx H hPx (hDx.weaken (fun _ _ _ _ => trivial)) (xs 1) (xs 2) (xs 3) (xs 4) (xs 5)) (cwV 5 hts gq_X11_copy rfl rfl rfl (by decide +kernel) ⟨Nat.le_of_ble_eq_true rfl, Nat.le_of_ble_eq_true rfl⟩) ⟨pb_c, va_recv hKx hPx (ci := 11) (q0 := 0) rfl rfl, pb_m hKx⟩ rfl rfl hl.1 rfl (lv_room (Nat.le_of_ble_eq_true rfl)) dL_law_402 ⟨Nat.le_of_ble_eq_true rfl, Nat.le_of_ble_eq_true rfl⟩) hS (fun q _ h => hFx q h) hFx (fun r1 u t H1 locs ht hvm hw1 hB hz1 hk1 hS => ?_)
  have hPm := kp_rest hD hPm hk1
  refine lv_aload_n hx hb dL_law_405 rfl (lv_at hl 1 rfl) ?_
  refine lv_aload_n hx hb dL_law_406 rfl (lv_at hl 3 rfl) ?_
  refine lv_iload_n hx hb dL_law_407 rfl (lv_at hl 0 rfl) ?_
  refine lv_iconst (v := 1) hx hb dL_law_408 (by decide) ?_
  refine lv_iadd hx hb dL_law_409 ?_
  refine lq_i 1 (by decide) ?_
  refine va_sld hx hb hX hbl hbA hS (show vp_in 1 6 by unfold vp_in; decide) dL_law_410 ?_
  refine lq_i (xs 1) rfl ?_
  refine lv_aload_n hx hb dL_law_411 rfl (lv_at hl 3 rfl) ?_
  refine lv_iload_n hx hb dL_law_412 rfl (lv_at hl 0 rfl) ?_
  refine lv_iconst (v := 2) hx hb dL_law_413 (by decide) ?_
  refine lv_iadd hx hb dL_law_414 ?_
  refine lq_i 2 (by decide) ?_
  refine va_sld hx hb hX hbl hbA hS (show vp_in 2 6 by unfold vp_in; decide) dL_law_415 ?_
  refine lq_i (xs 2) rfl ?_
  refine lv_aload_n hx hb dL_law_416 rfl (lv_at hl 3 rfl) ?_
  refine lv_iload_n hx hb dL_law_417 rfl (lv_at hl 0 rfl) ?_
  refine lv_iconst (v := 3) hx hb dL_law_418 (by decide) ?_
  refine lv_iadd hx hb dL_law_419 ?_
  refine lq_i 3 (by decide) ?_
  refine va_sld hx hb hX hbl hbA hS (show vp_in 3 6 by unfold vp_in; decide) dL_law_420 ?_
  refine lq_i (xs 3) rfl ?_
  refine lv_aload_n hx hb dL_law_421 rfl (lv_at hl 3 rfl) ?_
  refine lv_iload_n hx hb dL_law_422 rfl (lv_at hl 0 rfl) ?_
  refine lv_iconst (v := 4) hx hb dL_law_423 (by decide) ?_
  refine lv_iadd hx hb dL_law_424 ?_
  refine lq_i 4 (by decide) ?_
  refine va_sld hx hb hX hbl hbA hS (show vp_in 4 6 by unfold vp_in; decide) dL_law_425 ?_
  refine lq_i (xs 4) rfl ?_
  refine lv_aload_n hx hb dL_law_426 rfl (lv_at hl 3 rfl) ?_
  refine lv_iload_n hx hb dL_law_427 rfl (lv_at hl 0 rfl) ?_
  refine lv_iconst (v := 5) hx hb dL_law_428 (by decide) ?_
  refine lv_iadd hx hb dL_law_429 ?_
  refine lq_i 5 (by decide) ?_
  refine va_sld hx hb hX hbl hbA hS (show vp_in 5 6 by unfold vp_in; decide) dL_law_430 ?_
  refine lq_i (xs 5) rfl ?_
  have hFm := fr_all hDm hS hA
  refine va_calli (va_runV (As := [.int (xs 1), .int (xs 2), .int (xs 3), .int (xs 4), .int (xs 5)]) (rest := [.int r1]) ⟨hx, hb, hml, hown, hts⟩ (pm_copy l dC dI csm adm H1 hPm (hDm.weaken (fun _ _ _ _ => trivial)) (xs 1) (xs 2) (xs 3) (xs 4) (xs 5)) (cwV 5 hts gq_X12_copy rfl rfl rfl (by decide +kernel) ⟨Nat.le_of_ble_eq_true rfl, Nat.le_of_ble_eq_true rfl⟩) ⟨pb_c, va_recv hKm hPm (ci := 12) (q0 := 0) rfl rfl, pb_m hKm⟩ rfl rfl hl.1 rfl (lv_room (Nat.le_of_ble_eq_true rfl)) dL_law_431 ⟨Nat.le_of_ble_eq_true rfl, Nat.le_of_ble_eq_true rfl⟩) hS (fun q _ h => hFm q h) hFm (fun r2 u t H2 locs ht hvm hw2 hB hz1 hk1 hS => ?_)
  refine lv_icmp_eq (tgt := 1644) hx hb dL_law_434 (by decide) (fun _ => ?_) (fun c => absurd (hw1.trans hw2.symm) c)
  exact le_end l C1 hS hl
set_option maxHeartbeats 4000000 in
set_option maxRecDepth 100000 in
theorem le_5 {p : Program} {e : Env} {s : State} {m : MethodId} {below : List Frame} {meth : Method} {c : Code} (l : Launch) {b : Nat} {xs : Nat → Int32} {dC : Nat → ClassId} {dI : Nat → Nat → Nat} {csx csm : Nat → ClassId} {adx adm : Nat → Nat} {H : Heap} {locs : List Loc} {ls : Array Slot} (S0 : lw_S p s m meth c b xs dC dI csx csm adx adm H locs ls) : W p l e room_1 s m #[Value.ref b] below meth c H locs 178 3099 (lw_Z below #[Value.ref b] s) (F0 m 439 ls []) := by
  obtain ⟨C0, hKx, hKm, hPx, hPm, hD, hS, hl⟩ := S0
  have C1 := C0
  obtain ⟨hx, hb, hr, hml, hown0, hts0, hX, hbl, hlocks, hgv⟩ := C0
  have hown : s.vm.findClass RL = some m.cls := hown0
  have hts := hts0
  have hbA : ¬ (fun q : Nat => s.heap.size ≤ q) b := Nat.not_le.mpr hbl
  have hA : ∀ q : Nat, s.heap.size ≤ q → (fun q : Nat => s.heap.size ≤ q) q := fun _ h => h
  have hDx := dl_left hD
  have hDm := dl_right hD
  refine lv_aload_n hx hb dL_law_439 rfl (lv_at hl 2 rfl) ?_
  refine lv_aload_n hx hb dL_law_440 rfl (lv_at hl 3 rfl) ?_
  refine lv_iload_n hx hb dL_law_441 rfl (lv_at hl 0 rfl) ?_
  refine lv_iconst (v := 1) hx hb dL_law_442 (by decide) ?_
  refine lv_iadd hx hb dL_law_443 ?_
  refine lq_i 1 (by decide) ?_
  refine va_sld hx hb hX hbl hbA hS (show vp_in 1 6 by unfold vp_in; decide) dL_law_444 ?_
  refine lq_i (xs 1) rfl ?_
  have hFx := fr_all hDx hS hA
  refine va_calli (va_runV (As := [.int (xs 1)]) (rest := []) ⟨hx, hb, hml, hown, hts⟩ (px_mean l dC dI csx adx H hPx (hDx.weaken (fun _ _ _ _ => trivial)) (xs 1)) (cwV 1 hts gq_X11_mean rfl rfl rfl (by decide +kernel) ⟨Nat.le_of_ble_eq_true rfl, Nat.le_of_ble_eq_true rfl⟩) ⟨pb_c, va_recv hKx hPx (ci := 11) (q0 := 0) rfl rfl, pb_m hKx⟩ rfl rfl hl.1 rfl (lv_room (Nat.le_of_ble_eq_true rfl)) dL_law_445 ⟨Nat.le_of_ble_eq_true rfl, Nat.le_of_ble_eq_true rfl⟩) hS (fun q _ h => hFx q h) hFx (fun r1 u t H1 locs ht hvm hw1 hB hz1 hk1 hS => ?_)
  have hPm := kp_rest hD hPm hk1
  refine lv_aload_n hx hb dL_law_448 rfl (lv_at hl 1 rfl) ?_
  refine lv_aload_n hx hb dL_law_449 rfl (lv_at hl 3 rfl) ?_
  refine lv_iload_n hx hb dL_law_450 rfl (lv_at hl 0 rfl) ?_
  refine lv_iconst (v := 1) hx hb dL_law_451 (by decide) ?_
  refine lv_iadd hx hb dL_law_452 ?_
  refine lq_i 1 (by decide) ?_
  refine va_sld hx hb hX hbl hbA hS (show vp_in 1 6 by unfold vp_in; decide) dL_law_453 ?_
  refine lq_i (xs 1) rfl ?_
  have hFm := fr_all hDm hS hA
  refine va_calli (va_runV (As := [.int (xs 1)]) (rest := [.int r1]) ⟨hx, hb, hml, hown, hts⟩ (pm_mean l dC dI csm adm H1 hPm (hDm.weaken (fun _ _ _ _ => trivial)) (xs 1)) (cwV 1 hts gq_X12_mean rfl rfl rfl (by decide +kernel) ⟨Nat.le_of_ble_eq_true rfl, Nat.le_of_ble_eq_true rfl⟩) ⟨pb_c, va_recv hKm hPm (ci := 12) (q0 := 0) rfl rfl, pb_m hKm⟩ rfl rfl hl.1 rfl (lv_room (Nat.le_of_ble_eq_true rfl)) dL_law_454 ⟨Nat.le_of_ble_eq_true rfl, Nat.le_of_ble_eq_true rfl⟩) hS (fun q _ h => hFm q h) hFm (fun r2 u t H2 locs ht hvm hw2 hB hz1 hk1 hS => ?_)
  refine lv_icmp_eq (tgt := 1644) hx hb dL_law_457 (by decide) (fun _ => ?_) (fun c => absurd (hw1.trans hw2.symm) c)
  exact le_end l C1 hS hl
set_option maxHeartbeats 4000000 in
set_option maxRecDepth 100000 in
theorem le_6 {p : Program} {e : Env} {s : State} {m : MethodId} {below : List Frame} {meth : Method} {c : Code} (l : Launch) {b : Nat} {xs : Nat → Int32} {dC : Nat → ClassId} {dI : Nat → Nat → Nat} {csx csm : Nat → ClassId} {adx adm : Nat → Nat} {H : Heap} {locs : List Loc} {ls : Array Slot} (S0 : lw_S p s m meth c b xs dC dI csx csm adx adm H locs ls) : W p l e room_1 s m #[Value.ref b] below meth c H locs 178 3099 (lw_Z below #[Value.ref b] s) (F0 m 462 ls []) := by
  obtain ⟨C0, hKx, hKm, hPx, hPm, hD, hS, hl⟩ := S0
  have C1 := C0
  obtain ⟨hx, hb, hr, hml, hown0, hts0, hX, hbl, hlocks, hgv⟩ := C0
  have hown : s.vm.findClass RL = some m.cls := hown0
  have hts := hts0
  have hbA : ¬ (fun q : Nat => s.heap.size ≤ q) b := Nat.not_le.mpr hbl
  have hA : ∀ q : Nat, s.heap.size ≤ q → (fun q : Nat => s.heap.size ≤ q) q := fun _ h => h
  have hDx := dl_left hD
  have hDm := dl_right hD
  refine lv_aload_n hx hb dL_law_462 rfl (lv_at hl 2 rfl) ?_
  refine lv_aload_n hx hb dL_law_463 rfl (lv_at hl 3 rfl) ?_
  refine lv_iload_n hx hb dL_law_464 rfl (lv_at hl 0 rfl) ?_
  refine lv_iconst (v := 1) hx hb dL_law_465 (by decide) ?_
  refine lv_iadd hx hb dL_law_466 ?_
  refine lq_i 1 (by decide) ?_
  refine va_sld hx hb hX hbl hbA hS (show vp_in 1 6 by unfold vp_in; decide) dL_law_467 ?_
  refine lq_i (xs 1) rfl ?_
  refine lv_aload_n hx hb dL_law_468 rfl (lv_at hl 3 rfl) ?_
  refine lv_iload_n hx hb dL_law_469 rfl (lv_at hl 0 rfl) ?_
  refine lv_iconst (v := 2) hx hb dL_law_470 (by decide) ?_
  refine lv_iadd hx hb dL_law_471 ?_
  refine lq_i 2 (by decide) ?_
  refine va_sld hx hb hX hbl hbA hS (show vp_in 2 6 by unfold vp_in; decide) dL_law_472 ?_
  refine lq_i (xs 2) rfl ?_
  have hFx := fr_all hDx hS hA
  refine va_calli (va_runV (As := [.int (xs 1), .int (xs 2)]) (rest := []) ⟨hx, hb, hml, hown, hts⟩ (px_text l dC dI csx adx H hPx (hDx.weaken (fun _ _ _ _ => trivial)) (xs 1) (xs 2)) (cwV 2 hts gq_X11_text rfl rfl rfl (by decide +kernel) ⟨Nat.le_of_ble_eq_true rfl, Nat.le_of_ble_eq_true rfl⟩) ⟨pb_c, va_recv hKx hPx (ci := 11) (q0 := 0) rfl rfl, pb_m hKx⟩ rfl rfl hl.1 rfl (lv_room (Nat.le_of_ble_eq_true rfl)) dL_law_473 ⟨Nat.le_of_ble_eq_true rfl, Nat.le_of_ble_eq_true rfl⟩) hS (fun q _ h => hFx q h) hFx (fun r1 u t H1 locs ht hvm hw1 hB hz1 hk1 hS => ?_)
  have hPm := kp_rest hD hPm hk1
  refine lv_aload_n hx hb dL_law_476 rfl (lv_at hl 1 rfl) ?_
  refine lv_aload_n hx hb dL_law_477 rfl (lv_at hl 3 rfl) ?_
  refine lv_iload_n hx hb dL_law_478 rfl (lv_at hl 0 rfl) ?_
  refine lv_iconst (v := 1) hx hb dL_law_479 (by decide) ?_
  refine lv_iadd hx hb dL_law_480 ?_
  refine lq_i 1 (by decide) ?_
  refine va_sld hx hb hX hbl hbA hS (show vp_in 1 6 by unfold vp_in; decide) dL_law_481 ?_
  refine lq_i (xs 1) rfl ?_
  refine lv_aload_n hx hb dL_law_482 rfl (lv_at hl 3 rfl) ?_
  refine lv_iload_n hx hb dL_law_483 rfl (lv_at hl 0 rfl) ?_
  refine lv_iconst (v := 2) hx hb dL_law_484 (by decide) ?_
  refine lv_iadd hx hb dL_law_485 ?_
  refine lq_i 2 (by decide) ?_
  refine va_sld hx hb hX hbl hbA hS (show vp_in 2 6 by unfold vp_in; decide) dL_law_486 ?_
  refine lq_i (xs 2) rfl ?_
  have hFm := fr_all hDm hS hA
  refine va_calli (va_runV (As := [.int (xs 1), .int (xs 2)]) (rest := [.int r1]) ⟨hx, hb, hml, hown, hts⟩ (pm_text l dC dI csm adm H1 hPm (hDm.weaken (fun _ _ _ _ => trivial)) (xs 1) (xs 2)) (cwV 2 hts gq_X12_text rfl rfl rfl (by decide +kernel) ⟨Nat.le_of_ble_eq_true rfl, Nat.le_of_ble_eq_true rfl⟩) ⟨pb_c, va_recv hKm hPm (ci := 12) (q0 := 0) rfl rfl, pb_m hKm⟩ rfl rfl hl.1 rfl (lv_room (Nat.le_of_ble_eq_true rfl)) dL_law_487 ⟨Nat.le_of_ble_eq_true rfl, Nat.le_of_ble_eq_true rfl⟩) hS (fun q _ h => hFm q h) hFm (fun r2 u t H2 locs ht hvm hw2 hB hz1 hk1 hS => ?_)
  refine lv_icmp_eq (tgt := 1644) hx hb dL_law_490 (by decide) (fun _ => ?_) (fun c => absurd (hw1.trans hw2.symm) c)
  exact le_end l C1 hS hl
set_option maxHeartbeats 4000000 in
set_option maxRecDepth 100000 in
theorem le_7 {p : Program} {e : Env} {s : State} {m : MethodId} {below : List Frame} {meth : Method} {c : Code} (l : Launch) {b : Nat} {xs : Nat → Int32} {dC : Nat → ClassId} {dI : Nat → Nat → Nat} {csx csm : Nat → ClassId} {adx adm : Nat → Nat} {H : Heap} {locs : List Loc} {ls : Array Slot} (S0 : lw_S p s m meth c b xs dC dI csx csm adx adm H locs ls) : W p l e room_1 s m #[Value.ref b] below meth c H locs 178 3099 (lw_Z below #[Value.ref b] s) (F0 m 495 ls []) := by
  obtain ⟨C0, hKx, hKm, hPx, hPm, hD, hS, hl⟩ := S0
  have C1 := C0
  obtain ⟨hx, hb, hr, hml, hown0, hts0, hX, hbl, hlocks, hgv⟩ := C0
  have hown : s.vm.findClass RL = some m.cls := hown0
  have hts := hts0
  have hbA : ¬ (fun q : Nat => s.heap.size ≤ q) b := Nat.not_le.mpr hbl
  have hA : ∀ q : Nat, s.heap.size ≤ q → (fun q : Nat => s.heap.size ≤ q) q := fun _ h => h
  have hDx := dl_left hD
  have hDm := dl_right hD
  refine lv_aload_n hx hb dL_law_495 rfl (lv_at hl 2 rfl) ?_
  refine lv_aload_n hx hb dL_law_496 rfl (lv_at hl 3 rfl) ?_
  refine lv_iload_n hx hb dL_law_497 rfl (lv_at hl 0 rfl) ?_
  refine lv_iconst (v := 1) hx hb dL_law_498 (by decide) ?_
  refine lv_iadd hx hb dL_law_499 ?_
  refine lq_i 1 (by decide) ?_
  refine va_sld hx hb hX hbl hbA hS (show vp_in 1 6 by unfold vp_in; decide) dL_law_500 ?_
  refine lq_i (xs 1) rfl ?_
  refine lv_aload_n hx hb dL_law_501 rfl (lv_at hl 3 rfl) ?_
  refine lv_iload_n hx hb dL_law_502 rfl (lv_at hl 0 rfl) ?_
  refine lv_iconst (v := 2) hx hb dL_law_503 (by decide) ?_
  refine lv_iadd hx hb dL_law_504 ?_
  refine lq_i 2 (by decide) ?_
  refine va_sld hx hb hX hbl hbA hS (show vp_in 2 6 by unfold vp_in; decide) dL_law_505 ?_
  refine lq_i (xs 2) rfl ?_
  refine lv_aload_n hx hb dL_law_506 rfl (lv_at hl 3 rfl) ?_
  refine lv_iload_n hx hb dL_law_507 rfl (lv_at hl 0 rfl) ?_
  refine lv_iconst (v := 3) hx hb dL_law_508 (by decide) ?_
  refine lv_iadd hx hb dL_law_509 ?_
  refine lq_i 3 (by decide) ?_
  refine va_sld hx hb hX hbl hbA hS (show vp_in 3 6 by unfold vp_in; decide) dL_law_510 ?_
  refine lq_i (xs 3) rfl ?_
  have hFx := fr_all hDx hS hA
  refine va_calli (va_runV (As := [.int (xs 1), .int (xs 2), .int (xs 3)]) (rest := []) ⟨hx, hb, hml, hown, hts⟩ (px_put l dC dI csx adx H hPx (hDx.weaken (fun _ _ _ _ => trivial)) (xs 1) (xs 2) (xs 3)) (cwV 3 hts gq_X11_put rfl rfl rfl (by decide +kernel) ⟨Nat.le_of_ble_eq_true rfl, Nat.le_of_ble_eq_true rfl⟩) ⟨pb_c, va_recv hKx hPx (ci := 11) (q0 := 0) rfl rfl, pb_m hKx⟩ rfl rfl hl.1 rfl (lv_room (Nat.le_of_ble_eq_true rfl)) dL_law_511 ⟨Nat.le_of_ble_eq_true rfl, Nat.le_of_ble_eq_true rfl⟩) hS (fun q _ h => hFx q h) hFx (fun r1 u t H1 locs ht hvm hw1 hB hz1 hk1 hS => ?_)
  have hPm := kp_rest hD hPm hk1
  refine lv_aload_n hx hb dL_law_514 rfl (lv_at hl 1 rfl) ?_
  refine lv_aload_n hx hb dL_law_515 rfl (lv_at hl 3 rfl) ?_
  refine lv_iload_n hx hb dL_law_516 rfl (lv_at hl 0 rfl) ?_
  refine lv_iconst (v := 1) hx hb dL_law_517 (by decide) ?_
  refine lv_iadd hx hb dL_law_518 ?_
  refine lq_i 1 (by decide) ?_
  refine va_sld hx hb hX hbl hbA hS (show vp_in 1 6 by unfold vp_in; decide) dL_law_519 ?_
  refine lq_i (xs 1) rfl ?_
  refine lv_aload_n hx hb dL_law_520 rfl (lv_at hl 3 rfl) ?_
  refine lv_iload_n hx hb dL_law_521 rfl (lv_at hl 0 rfl) ?_
  refine lv_iconst (v := 2) hx hb dL_law_522 (by decide) ?_
  refine lv_iadd hx hb dL_law_523 ?_
  refine lq_i 2 (by decide) ?_
  refine va_sld hx hb hX hbl hbA hS (show vp_in 2 6 by unfold vp_in; decide) dL_law_524 ?_
  refine lq_i (xs 2) rfl ?_
  refine lv_aload_n hx hb dL_law_525 rfl (lv_at hl 3 rfl) ?_
  refine lv_iload_n hx hb dL_law_526 rfl (lv_at hl 0 rfl) ?_
  refine lv_iconst (v := 3) hx hb dL_law_527 (by decide) ?_
  refine lv_iadd hx hb dL_law_528 ?_
  refine lq_i 3 (by decide) ?_
  refine va_sld hx hb hX hbl hbA hS (show vp_in 3 6 by unfold vp_in; decide) dL_law_529 ?_
  refine lq_i (xs 3) rfl ?_
  have hFm := fr_all hDm hS hA
  refine va_calli (va_runV (As := [.int (xs 1), .int (xs 2), .int (xs 3)]) (rest := [.int r1]) ⟨hx, hb, hml, hown, hts⟩ (pm_put l dC dI csm adm H1 hPm (hDm.weaken (fun _ _ _ _ => trivial)) (xs 1) (xs 2) (xs 3)) (cwV 3 hts gq_X12_put rfl rfl rfl (by decide +kernel) ⟨Nat.le_of_ble_eq_true rfl, Nat.le_of_ble_eq_true rfl⟩) ⟨pb_c, va_recv hKm hPm (ci := 12) (q0 := 0) rfl rfl, pb_m hKm⟩ rfl rfl hl.1 rfl (lv_room (Nat.le_of_ble_eq_true rfl)) dL_law_530 ⟨Nat.le_of_ble_eq_true rfl, Nat.le_of_ble_eq_true rfl⟩) hS (fun q _ h => hFm q h) hFm (fun r2 u t H2 locs ht hvm hw2 hB hz1 hk1 hS => ?_)
  refine lv_icmp_eq (tgt := 1644) hx hb dL_law_533 (by decide) (fun _ => ?_) (fun c => absurd (hw1.trans hw2.symm) c)
  exact le_end l C1 hS hl
set_option maxHeartbeats 4000000 in
set_option maxRecDepth 100000 in
theorem le_8 {p : Program} {e : Env} {s : State} {m : MethodId} {below : List Frame} {meth : Method} {c : Code} (l : Launch) {b : Nat} {xs : Nat → Int32} {dC : Nat → ClassId} {dI : Nat → Nat → Nat} {csx csm : Nat → ClassId} {adx adm : Nat → Nat} {H : Heap} {locs : List Loc} {ls : Array Slot} (S0 : lw_S p s m meth c b xs dC dI csx csm adx adm H locs ls) : W p l e room_1 s m #[Value.ref b] below meth c H locs 178 3099 (lw_Z below #[Value.ref b] s) (F0 m 538 ls []) := by
  obtain ⟨C0, hKx, hKm, hPx, hPm, hD, hS, hl⟩ := S0
  have C1 := C0
  obtain ⟨hx, hb, hr, hml, hown0, hts0, hX, hbl, hlocks, hgv⟩ := C0
  have hown : s.vm.findClass RL = some m.cls := hown0
  have hts := hts0
  have hbA : ¬ (fun q : Nat => s.heap.size ≤ q) b := Nat.not_le.mpr hbl
  have hA : ∀ q : Nat, s.heap.size ≤ q → (fun q : Nat => s.heap.size ≤ q) q := fun _ h => h
  have hDx := dl_left hD
  have hDm := dl_right hD
  refine lv_aload_n hx hb dL_law_538 rfl (lv_at hl 2 rfl) ?_
  refine lv_aload_n hx hb dL_law_539 rfl (lv_at hl 3 rfl) ?_
  refine lv_iload_n hx hb dL_law_540 rfl (lv_at hl 0 rfl) ?_
  refine lv_iconst (v := 1) hx hb dL_law_541 (by decide) ?_
  refine lv_iadd hx hb dL_law_542 ?_
  refine lq_i 1 (by decide) ?_
  refine va_sld hx hb hX hbl hbA hS (show vp_in 1 6 by unfold vp_in; decide) dL_law_543 ?_
  refine lq_i (xs 1) rfl ?_
  have hFx := fr_all hDx hS hA
  refine va_calli (va_runV (As := [.int (xs 1)]) (rest := []) ⟨hx, hb, hml, hown, hts⟩ (px_fault l dC dI csx adx H hPx (hDx.weaken (fun _ _ _ _ => trivial)) (xs 1)) (cwV 1 hts gq_X11_fault rfl rfl rfl (by decide +kernel) ⟨Nat.le_of_ble_eq_true rfl, Nat.le_of_ble_eq_true rfl⟩) ⟨pb_c, va_recv hKx hPx (ci := 11) (q0 := 0) rfl rfl, pb_m hKx⟩ rfl rfl hl.1 rfl (lv_room (Nat.le_of_ble_eq_true rfl)) dL_law_544 ⟨Nat.le_of_ble_eq_true rfl, Nat.le_of_ble_eq_true rfl⟩) hS (fun q _ h => hFx q h) hFx (fun r1 u t H1 locs ht hvm hw1 hB hz1 hk1 hS => ?_)
  have hPm := kp_rest hD hPm hk1
  refine lv_aload_n hx hb dL_law_547 rfl (lv_at hl 1 rfl) ?_
  refine lv_aload_n hx hb dL_law_548 rfl (lv_at hl 3 rfl) ?_
  refine lv_iload_n hx hb dL_law_549 rfl (lv_at hl 0 rfl) ?_
  refine lv_iconst (v := 1) hx hb dL_law_550 (by decide) ?_
  refine lv_iadd hx hb dL_law_551 ?_
  refine lq_i 1 (by decide) ?_
  refine va_sld hx hb hX hbl hbA hS (show vp_in 1 6 by unfold vp_in; decide) dL_law_552 ?_
  refine lq_i (xs 1) rfl ?_
  have hFm := fr_all hDm hS hA
  refine va_calli (va_runV (As := [.int (xs 1)]) (rest := [.int r1]) ⟨hx, hb, hml, hown, hts⟩ (pm_fault l dC dI csm adm H1 hPm (hDm.weaken (fun _ _ _ _ => trivial)) (xs 1)) (cwV 1 hts gq_X12_fault rfl rfl rfl (by decide +kernel) ⟨Nat.le_of_ble_eq_true rfl, Nat.le_of_ble_eq_true rfl⟩) ⟨pb_c, va_recv hKm hPm (ci := 12) (q0 := 0) rfl rfl, pb_m hKm⟩ rfl rfl hl.1 rfl (lv_room (Nat.le_of_ble_eq_true rfl)) dL_law_553 ⟨Nat.le_of_ble_eq_true rfl, Nat.le_of_ble_eq_true rfl⟩) hS (fun q _ h => hFm q h) hFm (fun r2 u t H2 locs ht hvm hw2 hB hz1 hk1 hS => ?_)
  refine lv_icmp_eq (tgt := 1644) hx hb dL_law_556 (by decide) (fun _ => ?_) (fun c => absurd (hw1.trans hw2.symm) c)
  exact le_end l C1 hS hl
set_option maxHeartbeats 4000000 in
set_option maxRecDepth 100000 in
theorem le_9 {p : Program} {e : Env} {s : State} {m : MethodId} {below : List Frame} {meth : Method} {c : Code} (l : Launch) {b : Nat} {xs : Nat → Int32} {dC : Nat → ClassId} {dI : Nat → Nat → Nat} {csx csm : Nat → ClassId} {adx adm : Nat → Nat} {H : Heap} {locs : List Loc} {ls : Array Slot} (S0 : lw_S p s m meth c b xs dC dI csx csm adx adm H locs ls) : W p l e room_1 s m #[Value.ref b] below meth c H locs 178 3099 (lw_Z below #[Value.ref b] s) (F0 m 561 ls []) := by
  obtain ⟨C0, hKx, hKm, hPx, hPm, hD, hS, hl⟩ := S0
  have C1 := C0
  obtain ⟨hx, hb, hr, hml, hown0, hts0, hX, hbl, hlocks, hgv⟩ := C0
  have hown : s.vm.findClass RL = some m.cls := hown0
  have hts := hts0
  have hbA : ¬ (fun q : Nat => s.heap.size ≤ q) b := Nat.not_le.mpr hbl
  have hA : ∀ q : Nat, s.heap.size ≤ q → (fun q : Nat => s.heap.size ≤ q) q := fun _ h => h
  have hDx := dl_left hD
  have hDm := dl_right hD
  refine lv_aload_n hx hb dL_law_561 rfl (lv_at hl 2 rfl) ?_
  refine lv_aload_n hx hb dL_law_562 rfl (lv_at hl 3 rfl) ?_
  refine lv_iload_n hx hb dL_law_563 rfl (lv_at hl 0 rfl) ?_
  refine lv_iconst (v := 1) hx hb dL_law_564 (by decide) ?_
  refine lv_iadd hx hb dL_law_565 ?_
  refine lq_i 1 (by decide) ?_
  refine va_sld hx hb hX hbl hbA hS (show vp_in 1 6 by unfold vp_in; decide) dL_law_566 ?_
  refine lq_i (xs 1) rfl ?_
  have hFx := fr_all hDx hS hA
  refine va_calli (va_runV (As := [.int (xs 1)]) (rest := []) ⟨hx, hb, hml, hown, hts⟩ (px_town l dC dI csx adx H hPx (hDx.weaken (fun _ _ _ _ => trivial)) (xs 1)) (cwV 1 hts gq_X11_town rfl rfl rfl (by decide +kernel) ⟨Nat.le_of_ble_eq_true rfl, Nat.le_of_ble_eq_true rfl⟩) ⟨pb_c, va_recv hKx hPx (ci := 11) (q0 := 0) rfl rfl, pb_m hKx⟩ rfl rfl hl.1 rfl (lv_room (Nat.le_of_ble_eq_true rfl)) dL_law_567 ⟨Nat.le_of_ble_eq_true rfl, Nat.le_of_ble_eq_true rfl⟩) hS (fun q _ h => hFx q h) hFx (fun r1 u t H1 locs ht hvm hw1 hB hz1 hk1 hS => ?_)
  have hPm := kp_rest hD hPm hk1
  refine lv_aload_n hx hb dL_law_570 rfl (lv_at hl 1 rfl) ?_
  refine lv_aload_n hx hb dL_law_571 rfl (lv_at hl 3 rfl) ?_
  refine lv_iload_n hx hb dL_law_572 rfl (lv_at hl 0 rfl) ?_
  refine lv_iconst (v := 1) hx hb dL_law_573 (by decide) ?_
  refine lv_iadd hx hb dL_law_574 ?_
  refine lq_i 1 (by decide) ?_
  refine va_sld hx hb hX hbl hbA hS (show vp_in 1 6 by unfold vp_in; decide) dL_law_575 ?_
  refine lq_i (xs 1) rfl ?_
  have hFm := fr_all hDm hS hA
  refine va_calli (va_runV (As := [.int (xs 1)]) (rest := [.int r1]) ⟨hx, hb, hml, hown, hts⟩ (pm_town l dC dI csm adm H1 hPm (hDm.weaken (fun _ _ _ _ => trivial)) (xs 1)) (cwV 1 hts gq_X12_town rfl rfl rfl (by decide +kernel) ⟨Nat.le_of_ble_eq_true rfl, Nat.le_of_ble_eq_true rfl⟩) ⟨pb_c, va_recv hKm hPm (ci := 12) (q0 := 0) rfl rfl, pb_m hKm⟩ rfl rfl hl.1 rfl (lv_room (Nat.le_of_ble_eq_true rfl)) dL_law_576 ⟨Nat.le_of_ble_eq_true rfl, Nat.le_of_ble_eq_true rfl⟩) hS (fun q _ h => hFm q h) hFm (fun r2 u t H2 locs ht hvm hw2 hB hz1 hk1 hS => ?_)
  refine lv_icmp_eq (tgt := 1644) hx hb dL_law_579 (by decide) (fun _ => ?_) (fun c => absurd (hw1.trans hw2.symm) c)
  exact le_end l C1 hS hl
set_option maxHeartbeats 4000000 in
set_option maxRecDepth 100000 in
theorem le_10 {p : Program} {e : Env} {s : State} {m : MethodId} {below : List Frame} {meth : Method} {c : Code} (l : Launch) {b : Nat} {xs : Nat → Int32} {dC : Nat → ClassId} {dI : Nat → Nat → Nat} {csx csm : Nat → ClassId} {adx adm : Nat → Nat} {H : Heap} {locs : List Loc} {ls : Array Slot} (S0 : lw_S p s m meth c b xs dC dI csx csm adx adm H locs ls) : W p l e room_1 s m #[Value.ref b] below meth c H locs 178 3099 (lw_Z below #[Value.ref b] s) (F0 m 584 ls []) := by
  obtain ⟨C0, hKx, hKm, hPx, hPm, hD, hS, hl⟩ := S0
  have C1 := C0
  obtain ⟨hx, hb, hr, hml, hown0, hts0, hX, hbl, hlocks, hgv⟩ := C0
  have hown : s.vm.findClass RL = some m.cls := hown0
  have hts := hts0
  have hbA : ¬ (fun q : Nat => s.heap.size ≤ q) b := Nat.not_le.mpr hbl
  have hA : ∀ q : Nat, s.heap.size ≤ q → (fun q : Nat => s.heap.size ≤ q) q := fun _ h => h
  have hDx := dl_left hD
  have hDm := dl_right hD
  refine lv_aload_n hx hb dL_law_584 rfl (lv_at hl 2 rfl) ?_
  refine lv_aload_n hx hb dL_law_585 rfl (lv_at hl 3 rfl) ?_
  refine lv_iload_n hx hb dL_law_586 rfl (lv_at hl 0 rfl) ?_
  refine lv_iconst (v := 1) hx hb dL_law_587 (by decide) ?_
  refine lv_iadd hx hb dL_law_588 ?_
  refine lq_i 1 (by decide) ?_
  refine va_sld hx hb hX hbl hbA hS (show vp_in 1 6 by unfold vp_in; decide) dL_law_589 ?_
  refine lq_i (xs 1) rfl ?_
  refine lv_aload_n hx hb dL_law_590 rfl (lv_at hl 3 rfl) ?_
  refine lv_iload_n hx hb dL_law_591 rfl (lv_at hl 0 rfl) ?_
  refine lv_iconst (v := 2) hx hb dL_law_592 (by decide) ?_
  refine lv_iadd hx hb dL_law_593 ?_
  refine lq_i 2 (by decide) ?_
  refine va_sld hx hb hX hbl hbA hS (show vp_in 2 6 by unfold vp_in; decide) dL_law_594 ?_
  refine lq_i (xs 2) rfl ?_
  refine cr_i (va_runV (As := [.int (xs 1), .int (xs 2)]) (rest := []) ⟨hx, hb, hml, hown, hts⟩ (px_bearer l dC dI csx adx H hPx (xs 1) (xs 2)) (cwV 2 hts gq_X11_bearer rfl rfl rfl (by decide +kernel) ⟨Nat.le_of_ble_eq_true rfl, Nat.le_of_ble_eq_true rfl⟩) ⟨pb_c, va_recv hKx hPx (ci := 11) (q0 := 0) rfl rfl, pb_m hKx⟩ rfl rfl hl.1 rfl (lv_room (Nat.le_of_ble_eq_true rfl)) dL_law_595 ⟨Nat.le_of_ble_eq_true rfl, Nat.le_of_ble_eq_true rfl⟩) hS (fun r1 hw1 locs hS => ?_)
  refine lv_aload_n hx hb dL_law_598 rfl (lv_at hl 1 rfl) ?_
  refine lv_aload_n hx hb dL_law_599 rfl (lv_at hl 3 rfl) ?_
  refine lv_iload_n hx hb dL_law_600 rfl (lv_at hl 0 rfl) ?_
  refine lv_iconst (v := 1) hx hb dL_law_601 (by decide) ?_
  refine lv_iadd hx hb dL_law_602 ?_
  refine lq_i 1 (by decide) ?_
  refine va_sld hx hb hX hbl hbA hS (show vp_in 1 6 by unfold vp_in; decide) dL_law_603 ?_
  refine lq_i (xs 1) rfl ?_
  refine lv_aload_n hx hb dL_law_604 rfl (lv_at hl 3 rfl) ?_
  refine lv_iload_n hx hb dL_law_605 rfl (lv_at hl 0 rfl) ?_
  refine lv_iconst (v := 2) hx hb dL_law_606 (by decide) ?_
  refine lv_iadd hx hb dL_law_607 ?_
  refine lq_i 2 (by decide) ?_
  refine va_sld hx hb hX hbl hbA hS (show vp_in 2 6 by unfold vp_in; decide) dL_law_608 ?_
  refine lq_i (xs 2) rfl ?_
  refine cr_i (va_runV (As := [.int (xs 1), .int (xs 2)]) (rest := [.int r1]) ⟨hx, hb, hml, hown, hts⟩ (pm_bearer l dC dI csm adm H hPm (xs 1) (xs 2)) (cwV 2 hts gq_X12_bearer rfl rfl rfl (by decide +kernel) ⟨Nat.le_of_ble_eq_true rfl, Nat.le_of_ble_eq_true rfl⟩) ⟨pb_c, va_recv hKm hPm (ci := 12) (q0 := 0) rfl rfl, pb_m hKm⟩ rfl rfl hl.1 rfl (lv_room (Nat.le_of_ble_eq_true rfl)) dL_law_609 ⟨Nat.le_of_ble_eq_true rfl, Nat.le_of_ble_eq_true rfl⟩) hS (fun r2 hw2 locs hS => ?_)
  refine lv_icmp_eq (tgt := 1644) hx hb dL_law_612 (by decide) (fun _ => ?_) (fun c => absurd (hw1.trans hw2.symm) c)
  exact le_end l C1 hS hl
set_option maxHeartbeats 4000000 in
set_option maxRecDepth 100000 in
theorem le_11 {p : Program} {e : Env} {s : State} {m : MethodId} {below : List Frame} {meth : Method} {c : Code} (l : Launch) {b : Nat} {xs : Nat → Int32} {dC : Nat → ClassId} {dI : Nat → Nat → Nat} {csx csm : Nat → ClassId} {adx adm : Nat → Nat} {H : Heap} {locs : List Loc} {ls : Array Slot} (S0 : lw_S p s m meth c b xs dC dI csx csm adx adm H locs ls) : W p l e room_1 s m #[Value.ref b] below meth c H locs 178 3099 (lw_Z below #[Value.ref b] s) (F0 m 617 ls []) := by
  obtain ⟨C0, hKx, hKm, hPx, hPm, hD, hS, hl⟩ := S0
  have C1 := C0
  obtain ⟨hx, hb, hr, hml, hown0, hts0, hX, hbl, hlocks, hgv⟩ := C0
  have hown : s.vm.findClass RL = some m.cls := hown0
  have hts := hts0
  have hbA : ¬ (fun q : Nat => s.heap.size ≤ q) b := Nat.not_le.mpr hbl
  have hA : ∀ q : Nat, s.heap.size ≤ q → (fun q : Nat => s.heap.size ≤ q) q := fun _ h => h
  have hDx := dl_left hD
  have hDm := dl_right hD
  refine lv_aload_n hx hb dL_law_617 rfl (lv_at hl 2 rfl) ?_
  refine lv_aload_n hx hb dL_law_618 rfl (lv_at hl 3 rfl) ?_
  refine lv_iload_n hx hb dL_law_619 rfl (lv_at hl 0 rfl) ?_
  refine lv_iconst (v := 1) hx hb dL_law_620 (by decide) ?_
  refine lv_iadd hx hb dL_law_621 ?_
  refine lq_i 1 (by decide) ?_
  refine va_sld hx hb hX hbl hbA hS (show vp_in 1 6 by unfold vp_in; decide) dL_law_622 ?_
  refine lq_i (xs 1) rfl ?_
  refine lv_aload_n hx hb dL_law_623 rfl (lv_at hl 3 rfl) ?_
  refine lv_iload_n hx hb dL_law_624 rfl (lv_at hl 0 rfl) ?_
  refine lv_iconst (v := 2) hx hb dL_law_625 (by decide) ?_
  refine lv_iadd hx hb dL_law_626 ?_
  refine lq_i 2 (by decide) ?_
  refine va_sld hx hb hX hbl hbA hS (show vp_in 2 6 by unfold vp_in; decide) dL_law_627 ?_
  refine lq_i (xs 2) rfl ?_
  refine cr_i (va_runV (As := [.int (xs 1), .int (xs 2)]) (rest := []) ⟨hx, hb, hml, hown, hts⟩ (px_mark l dC dI csx adx H hPx (xs 1) (xs 2)) (cwV 2 hts gq_X11_mark rfl rfl rfl (by decide +kernel) ⟨Nat.le_of_ble_eq_true rfl, Nat.le_of_ble_eq_true rfl⟩) ⟨pb_c, va_recv hKx hPx (ci := 11) (q0 := 0) rfl rfl, pb_m hKx⟩ rfl rfl hl.1 rfl (lv_room (Nat.le_of_ble_eq_true rfl)) dL_law_628 ⟨Nat.le_of_ble_eq_true rfl, Nat.le_of_ble_eq_true rfl⟩) hS (fun r1 hw1 locs hS => ?_)
  refine lv_aload_n hx hb dL_law_631 rfl (lv_at hl 1 rfl) ?_
  refine lv_aload_n hx hb dL_law_632 rfl (lv_at hl 3 rfl) ?_
  refine lv_iload_n hx hb dL_law_633 rfl (lv_at hl 0 rfl) ?_
  refine lv_iconst (v := 1) hx hb dL_law_634 (by decide) ?_
  refine lv_iadd hx hb dL_law_635 ?_
  refine lq_i 1 (by decide) ?_
  refine va_sld hx hb hX hbl hbA hS (show vp_in 1 6 by unfold vp_in; decide) dL_law_636 ?_
  refine lq_i (xs 1) rfl ?_
  refine lv_aload_n hx hb dL_law_637 rfl (lv_at hl 3 rfl) ?_
  refine lv_iload_n hx hb dL_law_638 rfl (lv_at hl 0 rfl) ?_
  refine lv_iconst (v := 2) hx hb dL_law_639 (by decide) ?_
  refine lv_iadd hx hb dL_law_640 ?_
  refine lq_i 2 (by decide) ?_
  refine va_sld hx hb hX hbl hbA hS (show vp_in 2 6 by unfold vp_in; decide) dL_law_641 ?_
  refine lq_i (xs 2) rfl ?_
  refine cr_i (va_runV (As := [.int (xs 1), .int (xs 2)]) (rest := [.int r1]) ⟨hx, hb, hml, hown, hts⟩ (pm_mark l dC dI csm adm H hPm (xs 1) (xs 2)) (cwV 2 hts gq_X12_mark rfl rfl rfl (by decide +kernel) ⟨Nat.le_of_ble_eq_true rfl, Nat.le_of_ble_eq_true rfl⟩) ⟨pb_c, va_recv hKm hPm (ci := 12) (q0 := 0) rfl rfl, pb_m hKm⟩ rfl rfl hl.1 rfl (lv_room (Nat.le_of_ble_eq_true rfl)) dL_law_642 ⟨Nat.le_of_ble_eq_true rfl, Nat.le_of_ble_eq_true rfl⟩) hS (fun r2 hw2 locs hS => ?_)
  refine lv_icmp_eq (tgt := 1644) hx hb dL_law_645 (by decide) (fun _ => ?_) (fun c => absurd (hw1.trans hw2.symm) c)
  exact le_end l C1 hS hl
set_option maxHeartbeats 4000000 in
set_option maxRecDepth 100000 in
theorem le_12 {p : Program} {e : Env} {s : State} {m : MethodId} {below : List Frame} {meth : Method} {c : Code} (l : Launch) {b : Nat} {xs : Nat → Int32} {dC : Nat → ClassId} {dI : Nat → Nat → Nat} {csx csm : Nat → ClassId} {adx adm : Nat → Nat} {H : Heap} {locs : List Loc} {ls : Array Slot} (S0 : lw_S p s m meth c b xs dC dI csx csm adx adm H locs ls) : W p l e room_1 s m #[Value.ref b] below meth c H locs 178 3099 (lw_Z below #[Value.ref b] s) (F0 m 650 ls []) := by
  obtain ⟨C0, hKx, hKm, hPx, hPm, hD, hS, hl⟩ := S0
  have C1 := C0
  obtain ⟨hx, hb, hr, hml, hown0, hts0, hX, hbl, hlocks, hgv⟩ := C0
  have hown : s.vm.findClass RL = some m.cls := hown0
  have hts := hts0
  have hbA : ¬ (fun q : Nat => s.heap.size ≤ q) b := Nat.not_le.mpr hbl
  have hA : ∀ q : Nat, s.heap.size ≤ q → (fun q : Nat => s.heap.size ≤ q) q := fun _ h => h
  have hDx := dl_left hD
  have hDm := dl_right hD
  refine lv_aload_n hx hb dL_law_650 rfl (lv_at hl 2 rfl) ?_
  refine lv_aload_n hx hb dL_law_651 rfl (lv_at hl 3 rfl) ?_
  refine lv_iload_n hx hb dL_law_652 rfl (lv_at hl 0 rfl) ?_
  refine lv_iconst (v := 1) hx hb dL_law_653 (by decide) ?_
  refine lv_iadd hx hb dL_law_654 ?_
  refine lq_i 1 (by decide) ?_
  refine va_sld hx hb hX hbl hbA hS (show vp_in 1 6 by unfold vp_in; decide) dL_law_655 ?_
  refine lq_i (xs 1) rfl ?_
  refine lv_aload_n hx hb dL_law_656 rfl (lv_at hl 3 rfl) ?_
  refine lv_iload_n hx hb dL_law_657 rfl (lv_at hl 0 rfl) ?_
  refine lv_iconst (v := 2) hx hb dL_law_658 (by decide) ?_
  refine lv_iadd hx hb dL_law_659 ?_
  refine lq_i 2 (by decide) ?_
  refine va_sld hx hb hX hbl hbA hS (show vp_in 2 6 by unfold vp_in; decide) dL_law_660 ?_
  refine lq_i (xs 2) rfl ?_
  refine cr_i (va_runV (As := [.int (xs 1), .int (xs 2)]) (rest := []) ⟨hx, hb, hml, hown, hts⟩ (px_purse l dC dI csx adx H hPx (xs 1) (xs 2)) (cwV 2 hts gq_X11_purse rfl rfl rfl (by decide +kernel) ⟨Nat.le_of_ble_eq_true rfl, Nat.le_of_ble_eq_true rfl⟩) ⟨pb_c, va_recv hKx hPx (ci := 11) (q0 := 0) rfl rfl, pb_m hKx⟩ rfl rfl hl.1 rfl (lv_room (Nat.le_of_ble_eq_true rfl)) dL_law_661 ⟨Nat.le_of_ble_eq_true rfl, Nat.le_of_ble_eq_true rfl⟩) hS (fun r1 hw1 locs hS => ?_)
  refine lv_aload_n hx hb dL_law_664 rfl (lv_at hl 1 rfl) ?_
  refine lv_aload_n hx hb dL_law_665 rfl (lv_at hl 3 rfl) ?_
  refine lv_iload_n hx hb dL_law_666 rfl (lv_at hl 0 rfl) ?_
  refine lv_iconst (v := 1) hx hb dL_law_667 (by decide) ?_
  refine lv_iadd hx hb dL_law_668 ?_
  refine lq_i 1 (by decide) ?_
  refine va_sld hx hb hX hbl hbA hS (show vp_in 1 6 by unfold vp_in; decide) dL_law_669 ?_
  refine lq_i (xs 1) rfl ?_
  refine lv_aload_n hx hb dL_law_670 rfl (lv_at hl 3 rfl) ?_
  refine lv_iload_n hx hb dL_law_671 rfl (lv_at hl 0 rfl) ?_
  refine lv_iconst (v := 2) hx hb dL_law_672 (by decide) ?_
  refine lv_iadd hx hb dL_law_673 ?_
  refine lq_i 2 (by decide) ?_
  refine va_sld hx hb hX hbl hbA hS (show vp_in 2 6 by unfold vp_in; decide) dL_law_674 ?_
  refine lq_i (xs 2) rfl ?_
  refine cr_i (va_runV (As := [.int (xs 1), .int (xs 2)]) (rest := [.int r1]) ⟨hx, hb, hml, hown, hts⟩ (pm_purse l dC dI csm adm H hPm (xs 1) (xs 2)) (cwV 2 hts gq_X12_purse rfl rfl rfl (by decide +kernel) ⟨Nat.le_of_ble_eq_true rfl, Nat.le_of_ble_eq_true rfl⟩) ⟨pb_c, va_recv hKm hPm (ci := 12) (q0 := 0) rfl rfl, pb_m hKm⟩ rfl rfl hl.1 rfl (lv_room (Nat.le_of_ble_eq_true rfl)) dL_law_675 ⟨Nat.le_of_ble_eq_true rfl, Nat.le_of_ble_eq_true rfl⟩) hS (fun r2 hw2 locs hS => ?_)
  refine lv_icmp_eq (tgt := 1644) hx hb dL_law_678 (by decide) (fun _ => ?_) (fun c => absurd (hw1.trans hw2.symm) c)
  exact le_end l C1 hS hl
set_option maxHeartbeats 4000000 in
set_option maxRecDepth 100000 in
theorem le_13 {p : Program} {e : Env} {s : State} {m : MethodId} {below : List Frame} {meth : Method} {c : Code} (l : Launch) {b : Nat} {xs : Nat → Int32} {dC : Nat → ClassId} {dI : Nat → Nat → Nat} {csx csm : Nat → ClassId} {adx adm : Nat → Nat} {H : Heap} {locs : List Loc} {ls : Array Slot} (S0 : lw_S p s m meth c b xs dC dI csx csm adx adm H locs ls) : W p l e room_1 s m #[Value.ref b] below meth c H locs 178 3099 (lw_Z below #[Value.ref b] s) (F0 m 683 ls []) := by
  obtain ⟨C0, hKx, hKm, hPx, hPm, hD, hS, hl⟩ := S0
  have C1 := C0
  obtain ⟨hx, hb, hr, hml, hown0, hts0, hX, hbl, hlocks, hgv⟩ := C0
  have hown : s.vm.findClass RL = some m.cls := hown0
  have hts := hts0
  have hbA : ¬ (fun q : Nat => s.heap.size ≤ q) b := Nat.not_le.mpr hbl
  have hA : ∀ q : Nat, s.heap.size ≤ q → (fun q : Nat => s.heap.size ≤ q) q := fun _ h => h
  have hDx := dl_left hD
  have hDm := dl_right hD
  refine lv_aload_n hx hb dL_law_683 rfl (lv_at hl 2 rfl) ?_
  refine lv_aload_n hx hb dL_law_684 rfl (lv_at hl 3 rfl) ?_
  refine lv_iload_n hx hb dL_law_685 rfl (lv_at hl 0 rfl) ?_
  refine lv_iconst (v := 1) hx hb dL_law_686 (by decide) ?_
  refine lv_iadd hx hb dL_law_687 ?_
  refine lq_i 1 (by decide) ?_
  refine va_sld hx hb hX hbl hbA hS (show vp_in 1 6 by unfold vp_in; decide) dL_law_688 ?_
  refine lq_i (xs 1) rfl ?_
  refine lv_aload_n hx hb dL_law_689 rfl (lv_at hl 3 rfl) ?_
  refine lv_iload_n hx hb dL_law_690 rfl (lv_at hl 0 rfl) ?_
  refine lv_iconst (v := 2) hx hb dL_law_691 (by decide) ?_
  refine lv_iadd hx hb dL_law_692 ?_
  refine lq_i 2 (by decide) ?_
  refine va_sld hx hb hX hbl hbA hS (show vp_in 2 6 by unfold vp_in; decide) dL_law_693 ?_
  refine lq_i (xs 2) rfl ?_
  refine cr_i (va_runV (As := [.int (xs 1), .int (xs 2)]) (rest := []) ⟨hx, hb, hml, hown, hts⟩ (px_snow l dC dI csx adx H hPx (xs 1) (xs 2)) (cwV 2 hts gq_X11_snow rfl rfl rfl (by decide +kernel) ⟨Nat.le_of_ble_eq_true rfl, Nat.le_of_ble_eq_true rfl⟩) ⟨pb_c, va_recv hKx hPx (ci := 11) (q0 := 0) rfl rfl, pb_m hKx⟩ rfl rfl hl.1 rfl (lv_room (Nat.le_of_ble_eq_true rfl)) dL_law_694 ⟨Nat.le_of_ble_eq_true rfl, Nat.le_of_ble_eq_true rfl⟩) hS (fun r1 hw1 locs hS => ?_)
  refine lv_aload_n hx hb dL_law_697 rfl (lv_at hl 1 rfl) ?_
  refine lv_aload_n hx hb dL_law_698 rfl (lv_at hl 3 rfl) ?_
  refine lv_iload_n hx hb dL_law_699 rfl (lv_at hl 0 rfl) ?_
  refine lv_iconst (v := 1) hx hb dL_law_700 (by decide) ?_
  refine lv_iadd hx hb dL_law_701 ?_
  refine lq_i 1 (by decide) ?_
  refine va_sld hx hb hX hbl hbA hS (show vp_in 1 6 by unfold vp_in; decide) dL_law_702 ?_
  refine lq_i (xs 1) rfl ?_
  refine lv_aload_n hx hb dL_law_703 rfl (lv_at hl 3 rfl) ?_
  refine lv_iload_n hx hb dL_law_704 rfl (lv_at hl 0 rfl) ?_
  refine lv_iconst (v := 2) hx hb dL_law_705 (by decide) ?_
  refine lv_iadd hx hb dL_law_706 ?_
  refine lq_i 2 (by decide) ?_
  refine va_sld hx hb hX hbl hbA hS (show vp_in 2 6 by unfold vp_in; decide) dL_law_707 ?_
  refine lq_i (xs 2) rfl ?_
  refine cr_i (va_runV (As := [.int (xs 1), .int (xs 2)]) (rest := [.int r1]) ⟨hx, hb, hml, hown, hts⟩ (pm_snow l dC dI csm adm H hPm (xs 1) (xs 2)) (cwV 2 hts gq_X12_snow rfl rfl rfl (by decide +kernel) ⟨Nat.le_of_ble_eq_true rfl, Nat.le_of_ble_eq_true rfl⟩) ⟨pb_c, va_recv hKm hPm (ci := 12) (q0 := 0) rfl rfl, pb_m hKm⟩ rfl rfl hl.1 rfl (lv_room (Nat.le_of_ble_eq_true rfl)) dL_law_708 ⟨Nat.le_of_ble_eq_true rfl, Nat.le_of_ble_eq_true rfl⟩) hS (fun r2 hw2 locs hS => ?_)
  refine lv_icmp_eq (tgt := 1644) hx hb dL_law_711 (by decide) (fun _ => ?_) (fun c => absurd (hw1.trans hw2.symm) c)
  exact le_end l C1 hS hl
set_option maxHeartbeats 4000000 in
set_option maxRecDepth 100000 in
theorem le_14 {p : Program} {e : Env} {s : State} {m : MethodId} {below : List Frame} {meth : Method} {c : Code} (l : Launch) {b : Nat} {xs : Nat → Int32} {dC : Nat → ClassId} {dI : Nat → Nat → Nat} {csx csm : Nat → ClassId} {adx adm : Nat → Nat} {H : Heap} {locs : List Loc} {ls : Array Slot} (S0 : lw_S p s m meth c b xs dC dI csx csm adx adm H locs ls) : W p l e room_1 s m #[Value.ref b] below meth c H locs 178 3099 (lw_Z below #[Value.ref b] s) (F0 m 716 ls []) := by
  obtain ⟨C0, hKx, hKm, hPx, hPm, hD, hS, hl⟩ := S0
  have C1 := C0
  obtain ⟨hx, hb, hr, hml, hown0, hts0, hX, hbl, hlocks, hgv⟩ := C0
  have hown : s.vm.findClass RL = some m.cls := hown0
  have hts := hts0
  have hbA : ¬ (fun q : Nat => s.heap.size ≤ q) b := Nat.not_le.mpr hbl
  have hA : ∀ q : Nat, s.heap.size ≤ q → (fun q : Nat => s.heap.size ≤ q) q := fun _ h => h
  have hDx := dl_left hD
  have hDm := dl_right hD
  refine lv_aload_n hx hb dL_law_716 rfl (lv_at hl 2 rfl) ?_
  refine lv_aload_n hx hb dL_law_717 rfl (lv_at hl 3 rfl) ?_
  refine lv_iload_n hx hb dL_law_718 rfl (lv_at hl 0 rfl) ?_
  refine lv_iconst (v := 1) hx hb dL_law_719 (by decide) ?_
  refine lv_iadd hx hb dL_law_720 ?_
  refine lq_i 1 (by decide) ?_
  refine va_sld hx hb hX hbl hbA hS (show vp_in 1 6 by unfold vp_in; decide) dL_law_721 ?_
  refine lq_i (xs 1) rfl ?_
  refine lv_aload_n hx hb dL_law_722 rfl (lv_at hl 3 rfl) ?_
  refine lv_iload_n hx hb dL_law_723 rfl (lv_at hl 0 rfl) ?_
  refine lv_iconst (v := 2) hx hb dL_law_724 (by decide) ?_
  refine lv_iadd hx hb dL_law_725 ?_
  refine lq_i 2 (by decide) ?_
  refine va_sld hx hb hX hbl hbA hS (show vp_in 2 6 by unfold vp_in; decide) dL_law_726 ?_
  refine lq_i (xs 2) rfl ?_
  refine cr_i (va_runV (As := [.int (xs 1), .int (xs 2)]) (rest := []) ⟨hx, hb, hml, hown, hts⟩ (px_asks l dC dI csx adx H hPx (xs 1) (xs 2)) (cwV 2 hts gq_X11_asks rfl rfl rfl (by decide +kernel) ⟨Nat.le_of_ble_eq_true rfl, Nat.le_of_ble_eq_true rfl⟩) ⟨pb_c, va_recv hKx hPx (ci := 11) (q0 := 0) rfl rfl, pb_m hKx⟩ rfl rfl hl.1 rfl (lv_room (Nat.le_of_ble_eq_true rfl)) dL_law_727 ⟨Nat.le_of_ble_eq_true rfl, Nat.le_of_ble_eq_true rfl⟩) hS (fun r1 hw1 locs hS => ?_)
  refine lv_aload_n hx hb dL_law_730 rfl (lv_at hl 1 rfl) ?_
  refine lv_aload_n hx hb dL_law_731 rfl (lv_at hl 3 rfl) ?_
  refine lv_iload_n hx hb dL_law_732 rfl (lv_at hl 0 rfl) ?_
  refine lv_iconst (v := 1) hx hb dL_law_733 (by decide) ?_
  refine lv_iadd hx hb dL_law_734 ?_
  refine lq_i 1 (by decide) ?_
  refine va_sld hx hb hX hbl hbA hS (show vp_in 1 6 by unfold vp_in; decide) dL_law_735 ?_
  refine lq_i (xs 1) rfl ?_
  refine lv_aload_n hx hb dL_law_736 rfl (lv_at hl 3 rfl) ?_
  refine lv_iload_n hx hb dL_law_737 rfl (lv_at hl 0 rfl) ?_
  refine lv_iconst (v := 2) hx hb dL_law_738 (by decide) ?_
  refine lv_iadd hx hb dL_law_739 ?_
  refine lq_i 2 (by decide) ?_
  refine va_sld hx hb hX hbl hbA hS (show vp_in 2 6 by unfold vp_in; decide) dL_law_740 ?_
  refine lq_i (xs 2) rfl ?_
  refine cr_i (va_runV (As := [.int (xs 1), .int (xs 2)]) (rest := [.int r1]) ⟨hx, hb, hml, hown, hts⟩ (pm_asks l dC dI csm adm H hPm (xs 1) (xs 2)) (cwV 2 hts gq_X12_asks rfl rfl rfl (by decide +kernel) ⟨Nat.le_of_ble_eq_true rfl, Nat.le_of_ble_eq_true rfl⟩) ⟨pb_c, va_recv hKm hPm (ci := 12) (q0 := 0) rfl rfl, pb_m hKm⟩ rfl rfl hl.1 rfl (lv_room (Nat.le_of_ble_eq_true rfl)) dL_law_741 ⟨Nat.le_of_ble_eq_true rfl, Nat.le_of_ble_eq_true rfl⟩) hS (fun r2 hw2 locs hS => ?_)
  refine lv_icmp_eq (tgt := 1644) hx hb dL_law_744 (by decide) (fun _ => ?_) (fun c => absurd (hw1.trans hw2.symm) c)
  exact le_end l C1 hS hl
set_option maxHeartbeats 4000000 in
set_option maxRecDepth 100000 in
theorem le_15 {p : Program} {e : Env} {s : State} {m : MethodId} {below : List Frame} {meth : Method} {c : Code} (l : Launch) {b : Nat} {xs : Nat → Int32} {dC : Nat → ClassId} {dI : Nat → Nat → Nat} {csx csm : Nat → ClassId} {adx adm : Nat → Nat} {H : Heap} {locs : List Loc} {ls : Array Slot} (S0 : lw_S p s m meth c b xs dC dI csx csm adx adm H locs ls) : W p l e room_1 s m #[Value.ref b] below meth c H locs 178 3099 (lw_Z below #[Value.ref b] s) (F0 m 749 ls []) := by
  obtain ⟨C0, hKx, hKm, hPx, hPm, hD, hS, hl⟩ := S0
  have C1 := C0
  obtain ⟨hx, hb, hr, hml, hown0, hts0, hX, hbl, hlocks, hgv⟩ := C0
  have hown : s.vm.findClass RL = some m.cls := hown0
  have hts := hts0
  have hbA : ¬ (fun q : Nat => s.heap.size ≤ q) b := Nat.not_le.mpr hbl
  have hA : ∀ q : Nat, s.heap.size ≤ q → (fun q : Nat => s.heap.size ≤ q) q := fun _ h => h
  have hDx := dl_left hD
  have hDm := dl_right hD
  refine lv_aload_n hx hb dL_law_749 rfl (lv_at hl 2 rfl) ?_
  refine lv_aload_n hx hb dL_law_750 rfl (lv_at hl 3 rfl) ?_
  refine lv_iload_n hx hb dL_law_751 rfl (lv_at hl 0 rfl) ?_
  refine lv_iconst (v := 1) hx hb dL_law_752 (by decide) ?_
  refine lv_iadd hx hb dL_law_753 ?_
  refine lq_i 1 (by decide) ?_
  refine va_sld hx hb hX hbl hbA hS (show vp_in 1 6 by unfold vp_in; decide) dL_law_754 ?_
  refine lq_i (xs 1) rfl ?_
  refine cr_i (va_runV (As := [.int (xs 1)]) (rest := []) ⟨hx, hb, hml, hown, hts⟩ (px_beside l dC dI csx adx H hPx (xs 1)) (cwV 1 hts gq_X11_beside rfl rfl rfl (by decide +kernel) ⟨Nat.le_of_ble_eq_true rfl, Nat.le_of_ble_eq_true rfl⟩) ⟨pb_c, va_recv hKx hPx (ci := 11) (q0 := 0) rfl rfl, pb_m hKx⟩ rfl rfl hl.1 rfl (lv_room (Nat.le_of_ble_eq_true rfl)) dL_law_755 ⟨Nat.le_of_ble_eq_true rfl, Nat.le_of_ble_eq_true rfl⟩) hS (fun r1 hw1 locs hS => ?_)
  refine lv_aload_n hx hb dL_law_758 rfl (lv_at hl 1 rfl) ?_
  refine lv_aload_n hx hb dL_law_759 rfl (lv_at hl 3 rfl) ?_
  refine lv_iload_n hx hb dL_law_760 rfl (lv_at hl 0 rfl) ?_
  refine lv_iconst (v := 1) hx hb dL_law_761 (by decide) ?_
  refine lv_iadd hx hb dL_law_762 ?_
  refine lq_i 1 (by decide) ?_
  refine va_sld hx hb hX hbl hbA hS (show vp_in 1 6 by unfold vp_in; decide) dL_law_763 ?_
  refine lq_i (xs 1) rfl ?_
  refine cr_i (va_runV (As := [.int (xs 1)]) (rest := [.int r1]) ⟨hx, hb, hml, hown, hts⟩ (pm_beside l dC dI csm adm H hPm (xs 1)) (cwV 1 hts gq_X12_beside rfl rfl rfl (by decide +kernel) ⟨Nat.le_of_ble_eq_true rfl, Nat.le_of_ble_eq_true rfl⟩) ⟨pb_c, va_recv hKm hPm (ci := 12) (q0 := 0) rfl rfl, pb_m hKm⟩ rfl rfl hl.1 rfl (lv_room (Nat.le_of_ble_eq_true rfl)) dL_law_764 ⟨Nat.le_of_ble_eq_true rfl, Nat.le_of_ble_eq_true rfl⟩) hS (fun r2 hw2 locs hS => ?_)
  refine lv_icmp_eq (tgt := 1644) hx hb dL_law_767 (by decide) (fun _ => ?_) (fun c => absurd (hw1.trans hw2.symm) c)
  exact le_end l C1 hS hl
set_option maxHeartbeats 4000000 in
set_option maxRecDepth 100000 in
theorem le_16 {p : Program} {e : Env} {s : State} {m : MethodId} {below : List Frame} {meth : Method} {c : Code} (l : Launch) {b : Nat} {xs : Nat → Int32} {dC : Nat → ClassId} {dI : Nat → Nat → Nat} {csx csm : Nat → ClassId} {adx adm : Nat → Nat} {H : Heap} {locs : List Loc} {ls : Array Slot} (S0 : lw_S p s m meth c b xs dC dI csx csm adx adm H locs ls) : W p l e room_1 s m #[Value.ref b] below meth c H locs 178 3099 (lw_Z below #[Value.ref b] s) (F0 m 772 ls []) := by
  obtain ⟨C0, hKx, hKm, hPx, hPm, hD, hS, hl⟩ := S0
  have C1 := C0
  obtain ⟨hx, hb, hr, hml, hown0, hts0, hX, hbl, hlocks, hgv⟩ := C0
  have hown : s.vm.findClass RL = some m.cls := hown0
  have hts := hts0
  have hbA : ¬ (fun q : Nat => s.heap.size ≤ q) b := Nat.not_le.mpr hbl
  have hA : ∀ q : Nat, s.heap.size ≤ q → (fun q : Nat => s.heap.size ≤ q) q := fun _ h => h
  have hDx := dl_left hD
  have hDm := dl_right hD
  refine lv_aload_n hx hb dL_law_772 rfl (lv_at hl 2 rfl) ?_
  refine lv_aload_n hx hb dL_law_773 rfl (lv_at hl 3 rfl) ?_
  refine lv_iload_n hx hb dL_law_774 rfl (lv_at hl 0 rfl) ?_
  refine lv_iconst (v := 1) hx hb dL_law_775 (by decide) ?_
  refine lv_iadd hx hb dL_law_776 ?_
  refine lq_i 1 (by decide) ?_
  refine va_sld hx hb hX hbl hbA hS (show vp_in 1 6 by unfold vp_in; decide) dL_law_777 ?_
  refine lq_i (xs 1) rfl ?_
  refine lv_aload_n hx hb dL_law_778 rfl (lv_at hl 3 rfl) ?_
  refine lv_iload_n hx hb dL_law_779 rfl (lv_at hl 0 rfl) ?_
  refine lv_iconst (v := 2) hx hb dL_law_780 (by decide) ?_
  refine lv_iadd hx hb dL_law_781 ?_
  refine lq_i 2 (by decide) ?_
  refine va_sld hx hb hX hbl hbA hS (show vp_in 2 6 by unfold vp_in; decide) dL_law_782 ?_
  refine lq_i (xs 2) rfl ?_
  refine lv_aload_n hx hb dL_law_783 rfl (lv_at hl 3 rfl) ?_
  refine lv_iload_n hx hb dL_law_784 rfl (lv_at hl 0 rfl) ?_
  refine lv_iconst (v := 3) hx hb dL_law_785 (by decide) ?_
  refine lv_iadd hx hb dL_law_786 ?_
  refine lq_i 3 (by decide) ?_
  refine va_sld hx hb hX hbl hbA hS (show vp_in 3 6 by unfold vp_in; decide) dL_law_787 ?_
  refine lq_i (xs 3) rfl ?_
  refine lv_aload_n hx hb dL_law_788 rfl (lv_at hl 3 rfl) ?_
  refine lv_iload_n hx hb dL_law_789 rfl (lv_at hl 0 rfl) ?_
  refine lv_iconst (v := 4) hx hb dL_law_790 (by decide) ?_
  refine lv_iadd hx hb dL_law_791 ?_
  refine lq_i 4 (by decide) ?_
  refine va_sld hx hb hX hbl hbA hS (show vp_in 4 6 by unfold vp_in; decide) dL_law_792 ?_
  refine lq_i (xs 4) rfl ?_
  refine cr_i (va_runV (As := [.int (xs 1), .int (xs 2), .int (xs 3), .int (xs 4)]) (rest := []) ⟨hx, hb, hml, hown, hts⟩ (px_send l dC dI csx adx H hPx (xs 1) (xs 2) (xs 3) (xs 4)) (cwV 4 hts gq_X11_send rfl rfl rfl (by decide +kernel) ⟨Nat.le_of_ble_eq_true rfl, Nat.le_of_ble_eq_true rfl⟩) ⟨pb_c, va_recv hKx hPx (ci := 11) (q0 := 0) rfl rfl, pb_m hKx⟩ rfl rfl hl.1 rfl (lv_room (Nat.le_of_ble_eq_true rfl)) dL_law_793 ⟨Nat.le_of_ble_eq_true rfl, Nat.le_of_ble_eq_true rfl⟩) hS (fun r1 hw1 locs hS => ?_)
  refine lv_aload_n hx hb dL_law_796 rfl (lv_at hl 1 rfl) ?_
  refine lv_aload_n hx hb dL_law_797 rfl (lv_at hl 3 rfl) ?_
  refine lv_iload_n hx hb dL_law_798 rfl (lv_at hl 0 rfl) ?_
  refine lv_iconst (v := 1) hx hb dL_law_799 (by decide) ?_
  refine lv_iadd hx hb dL_law_800 ?_
  refine lq_i 1 (by decide) ?_
  refine va_sld hx hb hX hbl hbA hS (show vp_in 1 6 by unfold vp_in; decide) dL_law_801 ?_
  refine lq_i (xs 1) rfl ?_
  refine lv_aload_n hx hb dL_law_802 rfl (lv_at hl 3 rfl) ?_
  refine lv_iload_n hx hb dL_law_803 rfl (lv_at hl 0 rfl) ?_
  refine lv_iconst (v := 2) hx hb dL_law_804 (by decide) ?_
  refine lv_iadd hx hb dL_law_805 ?_
  refine lq_i 2 (by decide) ?_
  refine va_sld hx hb hX hbl hbA hS (show vp_in 2 6 by unfold vp_in; decide) dL_law_806 ?_
  refine lq_i (xs 2) rfl ?_
  refine lv_aload_n hx hb dL_law_807 rfl (lv_at hl 3 rfl) ?_
  refine lv_iload_n hx hb dL_law_808 rfl (lv_at hl 0 rfl) ?_
  refine lv_iconst (v := 3) hx hb dL_law_809 (by decide) ?_
  refine lv_iadd hx hb dL_law_810 ?_
  refine lq_i 3 (by decide) ?_
  refine va_sld hx hb hX hbl hbA hS (show vp_in 3 6 by unfold vp_in; decide) dL_law_811 ?_
  refine lq_i (xs 3) rfl ?_
  refine lv_aload_n hx hb dL_law_812 rfl (lv_at hl 3 rfl) ?_
  refine lv_iload_n hx hb dL_law_813 rfl (lv_at hl 0 rfl) ?_
  refine lv_iconst (v := 4) hx hb dL_law_814 (by decide) ?_
  refine lv_iadd hx hb dL_law_815 ?_
  refine lq_i 4 (by decide) ?_
  refine va_sld hx hb hX hbl hbA hS (show vp_in 4 6 by unfold vp_in; decide) dL_law_816 ?_
  refine lq_i (xs 4) rfl ?_
  refine cr_i (va_runV (As := [.int (xs 1), .int (xs 2), .int (xs 3), .int (xs 4)]) (rest := [.int r1]) ⟨hx, hb, hml, hown, hts⟩ (pm_send l dC dI csm adm H hPm (xs 1) (xs 2) (xs 3) (xs 4)) (cwV 4 hts gq_X12_send rfl rfl rfl (by decide +kernel) ⟨Nat.le_of_ble_eq_true rfl, Nat.le_of_ble_eq_true rfl⟩) ⟨pb_c, va_recv hKm hPm (ci := 12) (q0 := 0) rfl rfl, pb_m hKm⟩ rfl rfl hl.1 rfl (lv_room (Nat.le_of_ble_eq_true rfl)) dL_law_817 ⟨Nat.le_of_ble_eq_true rfl, Nat.le_of_ble_eq_true rfl⟩) hS (fun r2 hw2 locs hS => ?_)
  refine lv_icmp_eq (tgt := 1644) hx hb dL_law_820 (by decide) (fun _ => ?_) (fun c => absurd (hw1.trans hw2.symm) c)
  exact le_end l C1 hS hl
set_option maxHeartbeats 4000000 in
set_option maxRecDepth 100000 in
theorem le_17 {p : Program} {e : Env} {s : State} {m : MethodId} {below : List Frame} {meth : Method} {c : Code} (l : Launch) {b : Nat} {xs : Nat → Int32} {dC : Nat → ClassId} {dI : Nat → Nat → Nat} {csx csm : Nat → ClassId} {adx adm : Nat → Nat} {H : Heap} {locs : List Loc} {ls : Array Slot} (S0 : lw_S p s m meth c b xs dC dI csx csm adx adm H locs ls) : W p l e room_1 s m #[Value.ref b] below meth c H locs 178 3099 (lw_Z below #[Value.ref b] s) (F0 m 825 ls []) := by
  obtain ⟨C0, hKx, hKm, hPx, hPm, hD, hS, hl⟩ := S0
  have C1 := C0
  obtain ⟨hx, hb, hr, hml, hown0, hts0, hX, hbl, hlocks, hgv⟩ := C0
  have hown : s.vm.findClass RL = some m.cls := hown0
  have hts := hts0
  have hbA : ¬ (fun q : Nat => s.heap.size ≤ q) b := Nat.not_le.mpr hbl
  have hA : ∀ q : Nat, s.heap.size ≤ q → (fun q : Nat => s.heap.size ≤ q) q := fun _ h => h
  have hDx := dl_left hD
  have hDm := dl_right hD
  refine lv_aload_n hx hb dL_law_825 rfl (lv_at hl 2 rfl) ?_
  refine lv_aload_n hx hb dL_law_826 rfl (lv_at hl 3 rfl) ?_
  refine lv_iload_n hx hb dL_law_827 rfl (lv_at hl 0 rfl) ?_
  refine lv_iconst (v := 1) hx hb dL_law_828 (by decide) ?_
  refine lv_iadd hx hb dL_law_829 ?_
  refine lq_i 1 (by decide) ?_
  refine va_sld hx hb hX hbl hbA hS (show vp_in 1 6 by unfold vp_in; decide) dL_law_830 ?_
  refine lq_i (xs 1) rfl ?_
  refine lv_aload_n hx hb dL_law_831 rfl (lv_at hl 3 rfl) ?_
  refine lv_iload_n hx hb dL_law_832 rfl (lv_at hl 0 rfl) ?_
  refine lv_iconst (v := 2) hx hb dL_law_833 (by decide) ?_
  refine lv_iadd hx hb dL_law_834 ?_
  refine lq_i 2 (by decide) ?_
  refine va_sld hx hb hX hbl hbA hS (show vp_in 2 6 by unfold vp_in; decide) dL_law_835 ?_
  refine lq_i (xs 2) rfl ?_
  have hFx := fr_all hDx hS hA
  refine va_calli (va_runV (As := [.int (xs 1), .int (xs 2)]) (rest := []) ⟨hx, hb, hml, hown, hts⟩ (px_sell l dC dI csx adx H hPx (hDx.weaken (fun _ _ _ _ => trivial)) (xs 1) (xs 2)) (cwV 2 hts gq_X11_sell rfl rfl rfl (by decide +kernel) ⟨Nat.le_of_ble_eq_true rfl, Nat.le_of_ble_eq_true rfl⟩) ⟨pb_c, va_recv hKx hPx (ci := 11) (q0 := 0) rfl rfl, pb_m hKx⟩ rfl rfl hl.1 rfl (lv_room (Nat.le_of_ble_eq_true rfl)) dL_law_836 ⟨Nat.le_of_ble_eq_true rfl, Nat.le_of_ble_eq_true rfl⟩) hS (fun q _ h => hFx q h) hFx (fun r1 u t H1 locs ht hvm hw1 hB hz1 hk1 hS => ?_)
  have hPm := kp_rest hD hPm hk1
  refine lv_aload_n hx hb dL_law_839 rfl (lv_at hl 1 rfl) ?_
  refine lv_aload_n hx hb dL_law_840 rfl (lv_at hl 3 rfl) ?_
  refine lv_iload_n hx hb dL_law_841 rfl (lv_at hl 0 rfl) ?_
  refine lv_iconst (v := 1) hx hb dL_law_842 (by decide) ?_
  refine lv_iadd hx hb dL_law_843 ?_
  refine lq_i 1 (by decide) ?_
  refine va_sld hx hb hX hbl hbA hS (show vp_in 1 6 by unfold vp_in; decide) dL_law_844 ?_
  refine lq_i (xs 1) rfl ?_
  refine lv_aload_n hx hb dL_law_845 rfl (lv_at hl 3 rfl) ?_
  refine lv_iload_n hx hb dL_law_846 rfl (lv_at hl 0 rfl) ?_
  refine lv_iconst (v := 2) hx hb dL_law_847 (by decide) ?_
  refine lv_iadd hx hb dL_law_848 ?_
  refine lq_i 2 (by decide) ?_
  refine va_sld hx hb hX hbl hbA hS (show vp_in 2 6 by unfold vp_in; decide) dL_law_849 ?_
  refine lq_i (xs 2) rfl ?_
  have hFm := fr_all hDm hS hA
  refine va_calli (va_runV (As := [.int (xs 1), .int (xs 2)]) (rest := [.int r1]) ⟨hx, hb, hml, hown, hts⟩ (pm_sell l dC dI csm adm H1 hPm (hDm.weaken (fun _ _ _ _ => trivial)) (xs 1) (xs 2)) (cwV 2 hts gq_X12_sell rfl rfl rfl (by decide +kernel) ⟨Nat.le_of_ble_eq_true rfl, Nat.le_of_ble_eq_true rfl⟩) ⟨pb_c, va_recv hKm hPm (ci := 12) (q0 := 0) rfl rfl, pb_m hKm⟩ rfl rfl hl.1 rfl (lv_room (Nat.le_of_ble_eq_true rfl)) dL_law_850 ⟨Nat.le_of_ble_eq_true rfl, Nat.le_of_ble_eq_true rfl⟩) hS (fun q _ h => hFm q h) hFm (fun r2 u t H2 locs ht hvm hw2 hB hz1 hk1 hS => ?_)
  refine lv_icmp_eq (tgt := 1644) hx hb dL_law_853 (by decide) (fun _ => ?_) (fun c => absurd (hw1.trans hw2.symm) c)
  exact le_end l C1 hS hl
set_option maxHeartbeats 4000000 in
set_option maxRecDepth 100000 in
theorem le_18 {p : Program} {e : Env} {s : State} {m : MethodId} {below : List Frame} {meth : Method} {c : Code} (l : Launch) {b : Nat} {xs : Nat → Int32} {dC : Nat → ClassId} {dI : Nat → Nat → Nat} {csx csm : Nat → ClassId} {adx adm : Nat → Nat} {H : Heap} {locs : List Loc} {ls : Array Slot} (S0 : lw_S p s m meth c b xs dC dI csx csm adx adm H locs ls) : W p l e room_1 s m #[Value.ref b] below meth c H locs 178 3099 (lw_Z below #[Value.ref b] s) (F0 m 858 ls []) := by
  obtain ⟨C0, hKx, hKm, hPx, hPm, hD, hS, hl⟩ := S0
  have C1 := C0
  obtain ⟨hx, hb, hr, hml, hown0, hts0, hX, hbl, hlocks, hgv⟩ := C0
  have hown : s.vm.findClass RL = some m.cls := hown0
  have hts := hts0
  have hbA : ¬ (fun q : Nat => s.heap.size ≤ q) b := Nat.not_le.mpr hbl
  have hA : ∀ q : Nat, s.heap.size ≤ q → (fun q : Nat => s.heap.size ≤ q) q := fun _ h => h
  have hDx := dl_left hD
  have hDm := dl_right hD
  refine lv_aload_n hx hb dL_law_858 rfl (lv_at hl 2 rfl) ?_
  refine lv_aload_n hx hb dL_law_859 rfl (lv_at hl 3 rfl) ?_
  refine lv_iload_n hx hb dL_law_860 rfl (lv_at hl 0 rfl) ?_
  refine lv_iconst (v := 1) hx hb dL_law_861 (by decide) ?_
  refine lv_iadd hx hb dL_law_862 ?_
  refine lq_i 1 (by decide) ?_
  refine va_sld hx hb hX hbl hbA hS (show vp_in 1 6 by unfold vp_in; decide) dL_law_863 ?_
  refine lq_i (xs 1) rfl ?_
  have hFx := fr_all hDx hS hA
  refine va_calli (va_runV (As := [.int (xs 1)]) (rest := []) ⟨hx, hb, hml, hown, hts⟩ (px_days l dC dI csx adx H hPx (hDx.weaken (fun _ _ _ _ => trivial)) (xs 1)) (cwV 1 hts gq_X11_days rfl rfl rfl (by decide +kernel) ⟨Nat.le_of_ble_eq_true rfl, Nat.le_of_ble_eq_true rfl⟩) ⟨pb_c, va_recv hKx hPx (ci := 11) (q0 := 0) rfl rfl, pb_m hKx⟩ rfl rfl hl.1 rfl (lv_room (Nat.le_of_ble_eq_true rfl)) dL_law_864 ⟨Nat.le_of_ble_eq_true rfl, Nat.le_of_ble_eq_true rfl⟩) hS (fun q _ h => hFx q h) hFx (fun r1 u t H1 locs ht hvm hw1 hB hz1 hk1 hS => ?_)
  have hPm := kp_rest hD hPm hk1
  refine lv_aload_n hx hb dL_law_867 rfl (lv_at hl 1 rfl) ?_
  refine lv_aload_n hx hb dL_law_868 rfl (lv_at hl 3 rfl) ?_
  refine lv_iload_n hx hb dL_law_869 rfl (lv_at hl 0 rfl) ?_
  refine lv_iconst (v := 1) hx hb dL_law_870 (by decide) ?_
  refine lv_iadd hx hb dL_law_871 ?_
  refine lq_i 1 (by decide) ?_
  refine va_sld hx hb hX hbl hbA hS (show vp_in 1 6 by unfold vp_in; decide) dL_law_872 ?_
  refine lq_i (xs 1) rfl ?_
  have hFm := fr_all hDm hS hA
  refine va_calli (va_runV (As := [.int (xs 1)]) (rest := [.int r1]) ⟨hx, hb, hml, hown, hts⟩ (pm_days l dC dI csm adm H1 hPm (hDm.weaken (fun _ _ _ _ => trivial)) (xs 1)) (cwV 1 hts gq_X12_days rfl rfl rfl (by decide +kernel) ⟨Nat.le_of_ble_eq_true rfl, Nat.le_of_ble_eq_true rfl⟩) ⟨pb_c, va_recv hKm hPm (ci := 12) (q0 := 0) rfl rfl, pb_m hKm⟩ rfl rfl hl.1 rfl (lv_room (Nat.le_of_ble_eq_true rfl)) dL_law_873 ⟨Nat.le_of_ble_eq_true rfl, Nat.le_of_ble_eq_true rfl⟩) hS (fun q _ h => hFm q h) hFm (fun r2 u t H2 locs ht hvm hw2 hB hz1 hk1 hS => ?_)
  refine lv_icmp_eq (tgt := 1644) hx hb dL_law_876 (by decide) (fun _ => ?_) (fun c => absurd (hw1.trans hw2.symm) c)
  exact le_end l C1 hS hl
set_option maxHeartbeats 4000000 in
set_option maxRecDepth 100000 in
theorem le_19 {p : Program} {e : Env} {s : State} {m : MethodId} {below : List Frame} {meth : Method} {c : Code} (l : Launch) {b : Nat} {xs : Nat → Int32} {dC : Nat → ClassId} {dI : Nat → Nat → Nat} {csx csm : Nat → ClassId} {adx adm : Nat → Nat} {H : Heap} {locs : List Loc} {ls : Array Slot} (S0 : lw_S p s m meth c b xs dC dI csx csm adx adm H locs ls) : W p l e room_1 s m #[Value.ref b] below meth c H locs 178 3099 (lw_Z below #[Value.ref b] s) (F0 m 881 ls []) := by
  obtain ⟨C0, hKx, hKm, hPx, hPm, hD, hS, hl⟩ := S0
  have C1 := C0
  obtain ⟨hx, hb, hr, hml, hown0, hts0, hX, hbl, hlocks, hgv⟩ := C0
  have hown : s.vm.findClass RL = some m.cls := hown0
  have hts := hts0
  have hbA : ¬ (fun q : Nat => s.heap.size ≤ q) b := Nat.not_le.mpr hbl
  have hA : ∀ q : Nat, s.heap.size ≤ q → (fun q : Nat => s.heap.size ≤ q) q := fun _ h => h
  have hDx := dl_left hD
  have hDm := dl_right hD
  refine lv_aload_n hx hb dL_law_881 rfl (lv_at hl 2 rfl) ?_
  refine lv_aload_n hx hb dL_law_882 rfl (lv_at hl 3 rfl) ?_
  refine lv_iload_n hx hb dL_law_883 rfl (lv_at hl 0 rfl) ?_
  refine lv_iconst (v := 1) hx hb dL_law_884 (by decide) ?_
  refine lv_iadd hx hb dL_law_885 ?_
  refine lq_i 1 (by decide) ?_
  refine va_sld hx hb hX hbl hbA hS (show vp_in 1 6 by unfold vp_in; decide) dL_law_886 ?_
  refine lq_i (xs 1) rfl ?_
  have hFx := fr_all hDx hS hA
  refine va_calli (va_runV (As := [.int (xs 1)]) (rest := []) ⟨hx, hb, hml, hown, hts⟩ (px_where l dC dI csx adx H hPx (hDx.weaken (fun _ _ _ _ => trivial)) (xs 1)) (cwV 1 hts gq_X11_where rfl rfl rfl (by decide +kernel) ⟨Nat.le_of_ble_eq_true rfl, Nat.le_of_ble_eq_true rfl⟩) ⟨pb_c, va_recv hKx hPx (ci := 11) (q0 := 0) rfl rfl, pb_m hKx⟩ rfl rfl hl.1 rfl (lv_room (Nat.le_of_ble_eq_true rfl)) dL_law_887 ⟨Nat.le_of_ble_eq_true rfl, Nat.le_of_ble_eq_true rfl⟩) hS (fun q _ h => hFx q h) hFx (fun r1 u t H1 locs ht hvm hw1 hB hz1 hk1 hS => ?_)
  have hPm := kp_rest hD hPm hk1
  refine lv_aload_n hx hb dL_law_890 rfl (lv_at hl 1 rfl) ?_
  refine lv_aload_n hx hb dL_law_891 rfl (lv_at hl 3 rfl) ?_
  refine lv_iload_n hx hb dL_law_892 rfl (lv_at hl 0 rfl) ?_
  refine lv_iconst (v := 1) hx hb dL_law_893 (by decide) ?_
  refine lv_iadd hx hb dL_law_894 ?_
  refine lq_i 1 (by decide) ?_
  refine va_sld hx hb hX hbl hbA hS (show vp_in 1 6 by unfold vp_in; decide) dL_law_895 ?_
  refine lq_i (xs 1) rfl ?_
  have hFm := fr_all hDm hS hA
  refine va_calli (va_runV (As := [.int (xs 1)]) (rest := [.int r1]) ⟨hx, hb, hml, hown, hts⟩ (pm_where l dC dI csm adm H1 hPm (hDm.weaken (fun _ _ _ _ => trivial)) (xs 1)) (cwV 1 hts gq_X12_where rfl rfl rfl (by decide +kernel) ⟨Nat.le_of_ble_eq_true rfl, Nat.le_of_ble_eq_true rfl⟩) ⟨pb_c, va_recv hKm hPm (ci := 12) (q0 := 0) rfl rfl, pb_m hKm⟩ rfl rfl hl.1 rfl (lv_room (Nat.le_of_ble_eq_true rfl)) dL_law_896 ⟨Nat.le_of_ble_eq_true rfl, Nat.le_of_ble_eq_true rfl⟩) hS (fun q _ h => hFm q h) hFm (fun r2 u t H2 locs ht hvm hw2 hB hz1 hk1 hS => ?_)
  refine lv_icmp_eq (tgt := 1644) hx hb dL_law_899 (by decide) (fun _ => ?_) (fun c => absurd (hw1.trans hw2.symm) c)
  exact le_end l C1 hS hl
set_option maxHeartbeats 4000000 in
set_option maxRecDepth 100000 in
theorem le_20 {p : Program} {e : Env} {s : State} {m : MethodId} {below : List Frame} {meth : Method} {c : Code} (l : Launch) {b : Nat} {xs : Nat → Int32} {dC : Nat → ClassId} {dI : Nat → Nat → Nat} {csx csm : Nat → ClassId} {adx adm : Nat → Nat} {H : Heap} {locs : List Loc} {ls : Array Slot} (S0 : lw_S p s m meth c b xs dC dI csx csm adx adm H locs ls) : W p l e room_1 s m #[Value.ref b] below meth c H locs 178 3099 (lw_Z below #[Value.ref b] s) (F0 m 904 ls []) := by
  obtain ⟨C0, hKx, hKm, hPx, hPm, hD, hS, hl⟩ := S0
  have C1 := C0
  obtain ⟨hx, hb, hr, hml, hown0, hts0, hX, hbl, hlocks, hgv⟩ := C0
  have hown : s.vm.findClass RL = some m.cls := hown0
  have hts := hts0
  have hbA : ¬ (fun q : Nat => s.heap.size ≤ q) b := Nat.not_le.mpr hbl
  have hA : ∀ q : Nat, s.heap.size ≤ q → (fun q : Nat => s.heap.size ≤ q) q := fun _ h => h
  have hDx := dl_left hD
  have hDm := dl_right hD
  refine lv_aload_n hx hb dL_law_904 rfl (lv_at hl 2 rfl) ?_
  refine lv_aload_n hx hb dL_law_905 rfl (lv_at hl 3 rfl) ?_
  refine lv_iload_n hx hb dL_law_906 rfl (lv_at hl 0 rfl) ?_
  refine lv_iconst (v := 1) hx hb dL_law_907 (by decide) ?_
  refine lv_iadd hx hb dL_law_908 ?_
  refine lq_i 1 (by decide) ?_
  refine va_sld hx hb hX hbl hbA hS (show vp_in 1 6 by unfold vp_in; decide) dL_law_909 ?_
  refine lq_i (xs 1) rfl ?_
  refine lv_aload_n hx hb dL_law_910 rfl (lv_at hl 3 rfl) ?_
  refine lv_iload_n hx hb dL_law_911 rfl (lv_at hl 0 rfl) ?_
  refine lv_iconst (v := 2) hx hb dL_law_912 (by decide) ?_
  refine lv_iadd hx hb dL_law_913 ?_
  refine lq_i 2 (by decide) ?_
  refine va_sld hx hb hX hbl hbA hS (show vp_in 2 6 by unfold vp_in; decide) dL_law_914 ?_
  refine lq_i (xs 2) rfl ?_
  have hFx := fr_all hDx hS hA
  refine va_calli (va_runV (As := [.int (xs 1), .int (xs 2)]) (rest := []) ⟨hx, hb, hml, hown, hts⟩ (px_letter l dC dI csx adx H hPx (hDx.weaken (fun _ _ _ _ => trivial)) (xs 1) (xs 2)) (cwV 2 hts gq_X11_letter rfl rfl rfl (by decide +kernel) ⟨Nat.le_of_ble_eq_true rfl, Nat.le_of_ble_eq_true rfl⟩) ⟨pb_c, va_recv hKx hPx (ci := 11) (q0 := 0) rfl rfl, pb_m hKx⟩ rfl rfl hl.1 rfl (lv_room (Nat.le_of_ble_eq_true rfl)) dL_law_915 ⟨Nat.le_of_ble_eq_true rfl, Nat.le_of_ble_eq_true rfl⟩) hS (fun q _ h => hFx q h) hFx (fun r1 u t H1 locs ht hvm hw1 hB hz1 hk1 hS => ?_)
  have hPm := kp_rest hD hPm hk1
  refine lv_aload_n hx hb dL_law_918 rfl (lv_at hl 1 rfl) ?_
  refine lv_aload_n hx hb dL_law_919 rfl (lv_at hl 3 rfl) ?_
  refine lv_iload_n hx hb dL_law_920 rfl (lv_at hl 0 rfl) ?_
  refine lv_iconst (v := 1) hx hb dL_law_921 (by decide) ?_
  refine lv_iadd hx hb dL_law_922 ?_
  refine lq_i 1 (by decide) ?_
  refine va_sld hx hb hX hbl hbA hS (show vp_in 1 6 by unfold vp_in; decide) dL_law_923 ?_
  refine lq_i (xs 1) rfl ?_
  refine lv_aload_n hx hb dL_law_924 rfl (lv_at hl 3 rfl) ?_
  refine lv_iload_n hx hb dL_law_925 rfl (lv_at hl 0 rfl) ?_
  refine lv_iconst (v := 2) hx hb dL_law_926 (by decide) ?_
  refine lv_iadd hx hb dL_law_927 ?_
  refine lq_i 2 (by decide) ?_
  refine va_sld hx hb hX hbl hbA hS (show vp_in 2 6 by unfold vp_in; decide) dL_law_928 ?_
  refine lq_i (xs 2) rfl ?_
  have hFm := fr_all hDm hS hA
  refine va_calli (va_runV (As := [.int (xs 1), .int (xs 2)]) (rest := [.int r1]) ⟨hx, hb, hml, hown, hts⟩ (pm_letter l dC dI csm adm H1 hPm (hDm.weaken (fun _ _ _ _ => trivial)) (xs 1) (xs 2)) (cwV 2 hts gq_X12_letter rfl rfl rfl (by decide +kernel) ⟨Nat.le_of_ble_eq_true rfl, Nat.le_of_ble_eq_true rfl⟩) ⟨pb_c, va_recv hKm hPm (ci := 12) (q0 := 0) rfl rfl, pb_m hKm⟩ rfl rfl hl.1 rfl (lv_room (Nat.le_of_ble_eq_true rfl)) dL_law_929 ⟨Nat.le_of_ble_eq_true rfl, Nat.le_of_ble_eq_true rfl⟩) hS (fun q _ h => hFm q h) hFm (fun r2 u t H2 locs ht hvm hw2 hB hz1 hk1 hS => ?_)
  refine lv_icmp_eq (tgt := 1644) hx hb dL_law_932 (by decide) (fun _ => ?_) (fun c => absurd (hw1.trans hw2.symm) c)
  exact le_end l C1 hS hl
set_option maxHeartbeats 4000000 in
set_option maxRecDepth 100000 in
theorem le_21 {p : Program} {e : Env} {s : State} {m : MethodId} {below : List Frame} {meth : Method} {c : Code} (l : Launch) {b : Nat} {xs : Nat → Int32} {dC : Nat → ClassId} {dI : Nat → Nat → Nat} {csx csm : Nat → ClassId} {adx adm : Nat → Nat} {H : Heap} {locs : List Loc} {ls : Array Slot} (S0 : lw_S p s m meth c b xs dC dI csx csm adx adm H locs ls) : W p l e room_1 s m #[Value.ref b] below meth c H locs 178 3099 (lw_Z below #[Value.ref b] s) (F0 m 937 ls []) := by
  obtain ⟨C0, hKx, hKm, hPx, hPm, hD, hS, hl⟩ := S0
  have C1 := C0
  obtain ⟨hx, hb, hr, hml, hown0, hts0, hX, hbl, hlocks, hgv⟩ := C0
  have hown : s.vm.findClass RL = some m.cls := hown0
  have hts := hts0
  have hbA : ¬ (fun q : Nat => s.heap.size ≤ q) b := Nat.not_le.mpr hbl
  have hA : ∀ q : Nat, s.heap.size ≤ q → (fun q : Nat => s.heap.size ≤ q) q := fun _ h => h
  have hDx := dl_left hD
  have hDm := dl_right hD
  refine lv_aload_n hx hb dL_law_937 rfl (lv_at hl 2 rfl) ?_
  refine lv_aload_n hx hb dL_law_938 rfl (lv_at hl 3 rfl) ?_
  refine lv_iload_n hx hb dL_law_939 rfl (lv_at hl 0 rfl) ?_
  refine lv_iconst (v := 1) hx hb dL_law_940 (by decide) ?_
  refine lv_iadd hx hb dL_law_941 ?_
  refine lq_i 1 (by decide) ?_
  refine va_sld hx hb hX hbl hbA hS (show vp_in 1 6 by unfold vp_in; decide) dL_law_942 ?_
  refine lq_i (xs 1) rfl ?_
  have hFx := fr_all hDx hS hA
  refine va_calli (va_runV (As := [.int (xs 1)]) (rest := []) ⟨hx, hb, hml, hown, hts⟩ (px_can l dC dI csx adx H hPx (hDx.weaken (fun _ _ _ _ => trivial)) (xs 1)) (cwV 1 hts gq_X11_can rfl rfl rfl (by decide +kernel) ⟨Nat.le_of_ble_eq_true rfl, Nat.le_of_ble_eq_true rfl⟩) ⟨pb_c, va_recv hKx hPx (ci := 11) (q0 := 0) rfl rfl, pb_m hKx⟩ rfl rfl hl.1 rfl (lv_room (Nat.le_of_ble_eq_true rfl)) dL_law_943 ⟨Nat.le_of_ble_eq_true rfl, Nat.le_of_ble_eq_true rfl⟩) hS (fun q _ h => hFx q h) hFx (fun r1 u t H1 locs ht hvm hw1 hB hz1 hk1 hS => ?_)
  have hPm := kp_rest hD hPm hk1
  refine lv_aload_n hx hb dL_law_946 rfl (lv_at hl 1 rfl) ?_
  refine lv_aload_n hx hb dL_law_947 rfl (lv_at hl 3 rfl) ?_
  refine lv_iload_n hx hb dL_law_948 rfl (lv_at hl 0 rfl) ?_
  refine lv_iconst (v := 1) hx hb dL_law_949 (by decide) ?_
  refine lv_iadd hx hb dL_law_950 ?_
  refine lq_i 1 (by decide) ?_
  refine va_sld hx hb hX hbl hbA hS (show vp_in 1 6 by unfold vp_in; decide) dL_law_951 ?_
  refine lq_i (xs 1) rfl ?_
  have hFm := fr_all hDm hS hA
  refine va_calli (va_runV (As := [.int (xs 1)]) (rest := [.int r1]) ⟨hx, hb, hml, hown, hts⟩ (pm_can l dC dI csm adm H1 hPm (hDm.weaken (fun _ _ _ _ => trivial)) (xs 1)) (cwV 1 hts gq_X12_can rfl rfl rfl (by decide +kernel) ⟨Nat.le_of_ble_eq_true rfl, Nat.le_of_ble_eq_true rfl⟩) ⟨pb_c, va_recv hKm hPm (ci := 12) (q0 := 0) rfl rfl, pb_m hKm⟩ rfl rfl hl.1 rfl (lv_room (Nat.le_of_ble_eq_true rfl)) dL_law_952 ⟨Nat.le_of_ble_eq_true rfl, Nat.le_of_ble_eq_true rfl⟩) hS (fun q _ h => hFm q h) hFm (fun r2 u t H2 locs ht hvm hw2 hB hz1 hk1 hS => ?_)
  refine lv_icmp_eq (tgt := 1644) hx hb dL_law_955 (by decide) (fun _ => ?_) (fun c => absurd (hw1.trans hw2.symm) c)
  exact le_end l C1 hS hl
set_option maxHeartbeats 4000000 in
set_option maxRecDepth 100000 in
theorem le_22 {p : Program} {e : Env} {s : State} {m : MethodId} {below : List Frame} {meth : Method} {c : Code} (l : Launch) {b : Nat} {xs : Nat → Int32} {dC : Nat → ClassId} {dI : Nat → Nat → Nat} {csx csm : Nat → ClassId} {adx adm : Nat → Nat} {H : Heap} {locs : List Loc} {ls : Array Slot} (S0 : lw_S p s m meth c b xs dC dI csx csm adx adm H locs ls) : W p l e room_1 s m #[Value.ref b] below meth c H locs 178 3099 (lw_Z below #[Value.ref b] s) (F0 m 960 ls []) := by
  obtain ⟨C0, hKx, hKm, hPx, hPm, hD, hS, hl⟩ := S0
  have C1 := C0
  obtain ⟨hx, hb, hr, hml, hown0, hts0, hX, hbl, hlocks, hgv⟩ := C0
  have hown : s.vm.findClass RL = some m.cls := hown0
  have hts := hts0
  have hbA : ¬ (fun q : Nat => s.heap.size ≤ q) b := Nat.not_le.mpr hbl
  have hA : ∀ q : Nat, s.heap.size ≤ q → (fun q : Nat => s.heap.size ≤ q) q := fun _ h => h
  have hDx := dl_left hD
  have hDm := dl_right hD
  refine lv_aload_n hx hb dL_law_960 rfl (lv_at hl 2 rfl) ?_
  refine lv_aload_n hx hb dL_law_961 rfl (lv_at hl 3 rfl) ?_
  refine lv_iload_n hx hb dL_law_962 rfl (lv_at hl 0 rfl) ?_
  refine lv_iconst (v := 1) hx hb dL_law_963 (by decide) ?_
  refine lv_iadd hx hb dL_law_964 ?_
  refine lq_i 1 (by decide) ?_
  refine va_sld hx hb hX hbl hbA hS (show vp_in 1 6 by unfold vp_in; decide) dL_law_965 ?_
  refine lq_i (xs 1) rfl ?_
  refine cr_i (va_runV (As := [.int (xs 1)]) (rest := []) ⟨hx, hb, hml, hown, hts⟩ (px_undo l dC dI csx adx H hPx (xs 1)) (cwV 1 hts gq_X11_undo rfl rfl rfl (by decide +kernel) ⟨Nat.le_of_ble_eq_true rfl, Nat.le_of_ble_eq_true rfl⟩) ⟨pb_c, va_recv hKx hPx (ci := 11) (q0 := 0) rfl rfl, pb_m hKx⟩ rfl rfl hl.1 rfl (lv_room (Nat.le_of_ble_eq_true rfl)) dL_law_966 ⟨Nat.le_of_ble_eq_true rfl, Nat.le_of_ble_eq_true rfl⟩) hS (fun r1 hw1 locs hS => ?_)
  refine lv_aload_n hx hb dL_law_969 rfl (lv_at hl 1 rfl) ?_
  refine lv_aload_n hx hb dL_law_970 rfl (lv_at hl 3 rfl) ?_
  refine lv_iload_n hx hb dL_law_971 rfl (lv_at hl 0 rfl) ?_
  refine lv_iconst (v := 1) hx hb dL_law_972 (by decide) ?_
  refine lv_iadd hx hb dL_law_973 ?_
  refine lq_i 1 (by decide) ?_
  refine va_sld hx hb hX hbl hbA hS (show vp_in 1 6 by unfold vp_in; decide) dL_law_974 ?_
  refine lq_i (xs 1) rfl ?_
  have hFm := fr_all hDm hS hA
  refine va_calli (va_runV (As := [.int (xs 1)]) (rest := [.int r1]) ⟨hx, hb, hml, hown, hts⟩ (pm_undo l dC dI csm adm H hPm (hDm.weaken (fun _ _ _ _ => trivial)) (xs 1)) (cwV 1 hts gq_X12_undo rfl rfl rfl (by decide +kernel) ⟨Nat.le_of_ble_eq_true rfl, Nat.le_of_ble_eq_true rfl⟩) ⟨pb_c, va_recv hKm hPm (ci := 12) (q0 := 0) rfl rfl, pb_m hKm⟩ rfl rfl hl.1 rfl (lv_room (Nat.le_of_ble_eq_true rfl)) dL_law_975 ⟨Nat.le_of_ble_eq_true rfl, Nat.le_of_ble_eq_true rfl⟩) hS (fun q _ h => hFm q h) hFm (fun r2 u t H2 locs ht hvm hw2 hB hz1 hk1 hS => ?_)
  refine lv_icmp_eq (tgt := 1644) hx hb dL_law_978 (by decide) (fun _ => ?_) (fun c => absurd (hw1.trans hw2.symm) c)
  exact le_end l C1 hS hl
set_option maxHeartbeats 4000000 in
set_option maxRecDepth 100000 in
theorem le_23 {p : Program} {e : Env} {s : State} {m : MethodId} {below : List Frame} {meth : Method} {c : Code} (l : Launch) {b : Nat} {xs : Nat → Int32} {dC : Nat → ClassId} {dI : Nat → Nat → Nat} {csx csm : Nat → ClassId} {adx adm : Nat → Nat} {H : Heap} {locs : List Loc} {ls : Array Slot} (S0 : lw_S p s m meth c b xs dC dI csx csm adx adm H locs ls) : W p l e room_1 s m #[Value.ref b] below meth c H locs 178 3099 (lw_Z below #[Value.ref b] s) (F0 m 983 ls []) := by
  obtain ⟨C0, hKx, hKm, hPx, hPm, hD, hS, hl⟩ := S0
  have C1 := C0
  obtain ⟨hx, hb, hr, hml, hown0, hts0, hX, hbl, hlocks, hgv⟩ := C0
  have hown : s.vm.findClass RL = some m.cls := hown0
  have hts := hts0
  have hbA : ¬ (fun q : Nat => s.heap.size ≤ q) b := Nat.not_le.mpr hbl
  have hA : ∀ q : Nat, s.heap.size ≤ q → (fun q : Nat => s.heap.size ≤ q) q := fun _ h => h
  have hDx := dl_left hD
  have hDm := dl_right hD
  refine lv_aload_n hx hb dL_law_983 rfl (lv_at hl 2 rfl) ?_
  refine lv_aload_n hx hb dL_law_984 rfl (lv_at hl 3 rfl) ?_
  refine lv_iload_n hx hb dL_law_985 rfl (lv_at hl 0 rfl) ?_
  refine lv_iconst (v := 1) hx hb dL_law_986 (by decide) ?_
  refine lv_iadd hx hb dL_law_987 ?_
  refine lq_i 1 (by decide) ?_
  refine va_sld hx hb hX hbl hbA hS (show vp_in 1 6 by unfold vp_in; decide) dL_law_988 ?_
  refine lq_i (xs 1) rfl ?_
  refine cr_i (va_runV (As := [.int (xs 1)]) (rest := []) ⟨hx, hb, hml, hown, hts⟩ (px_keep l dC dI csx adx H hPx (xs 1)) (cwV 1 hts gq_X11_keep rfl rfl rfl (by decide +kernel) ⟨Nat.le_of_ble_eq_true rfl, Nat.le_of_ble_eq_true rfl⟩) ⟨pb_c, va_recv hKx hPx (ci := 11) (q0 := 0) rfl rfl, pb_m hKx⟩ rfl rfl hl.1 rfl (lv_room (Nat.le_of_ble_eq_true rfl)) dL_law_989 ⟨Nat.le_of_ble_eq_true rfl, Nat.le_of_ble_eq_true rfl⟩) hS (fun r1 hw1 locs hS => ?_)
  refine lv_aload_n hx hb dL_law_992 rfl (lv_at hl 1 rfl) ?_
  refine lv_aload_n hx hb dL_law_993 rfl (lv_at hl 3 rfl) ?_
  refine lv_iload_n hx hb dL_law_994 rfl (lv_at hl 0 rfl) ?_
  refine lv_iconst (v := 1) hx hb dL_law_995 (by decide) ?_
  refine lv_iadd hx hb dL_law_996 ?_
  refine lq_i 1 (by decide) ?_
  refine va_sld hx hb hX hbl hbA hS (show vp_in 1 6 by unfold vp_in; decide) dL_law_997 ?_
  refine lq_i (xs 1) rfl ?_
  refine cr_i (va_runV (As := [.int (xs 1)]) (rest := [.int r1]) ⟨hx, hb, hml, hown, hts⟩ (pm_keep l dC dI csm adm H hPm (xs 1)) (cwV 1 hts gq_X12_keep rfl rfl rfl (by decide +kernel) ⟨Nat.le_of_ble_eq_true rfl, Nat.le_of_ble_eq_true rfl⟩) ⟨pb_c, va_recv hKm hPm (ci := 12) (q0 := 0) rfl rfl, pb_m hKm⟩ rfl rfl hl.1 rfl (lv_room (Nat.le_of_ble_eq_true rfl)) dL_law_998 ⟨Nat.le_of_ble_eq_true rfl, Nat.le_of_ble_eq_true rfl⟩) hS (fun r2 hw2 locs hS => ?_)
  refine lv_icmp_eq (tgt := 1644) hx hb dL_law_1001 (by decide) (fun _ => ?_) (fun c => absurd (hw1.trans hw2.symm) c)
  exact le_end l C1 hS hl
set_option maxHeartbeats 4000000 in
set_option maxRecDepth 100000 in
theorem le_24 {p : Program} {e : Env} {s : State} {m : MethodId} {below : List Frame} {meth : Method} {c : Code} (l : Launch) {b : Nat} {xs : Nat → Int32} {dC : Nat → ClassId} {dI : Nat → Nat → Nat} {csx csm : Nat → ClassId} {adx adm : Nat → Nat} {H : Heap} {locs : List Loc} {ls : Array Slot} (S0 : lw_S p s m meth c b xs dC dI csx csm adx adm H locs ls) : W p l e room_1 s m #[Value.ref b] below meth c H locs 178 3099 (lw_Z below #[Value.ref b] s) (F0 m 1006 ls []) := by
  obtain ⟨C0, hKx, hKm, hPx, hPm, hD, hS, hl⟩ := S0
  have C1 := C0
  obtain ⟨hx, hb, hr, hml, hown0, hts0, hX, hbl, hlocks, hgv⟩ := C0
  have hown : s.vm.findClass RL = some m.cls := hown0
  have hts := hts0
  have hbA : ¬ (fun q : Nat => s.heap.size ≤ q) b := Nat.not_le.mpr hbl
  have hA : ∀ q : Nat, s.heap.size ≤ q → (fun q : Nat => s.heap.size ≤ q) q := fun _ h => h
  have hDx := dl_left hD
  have hDm := dl_right hD
  refine lv_aload_n hx hb dL_law_1006 rfl (lv_at hl 2 rfl) ?_
  refine lv_aload_n hx hb dL_law_1007 rfl (lv_at hl 3 rfl) ?_
  refine lv_iload_n hx hb dL_law_1008 rfl (lv_at hl 0 rfl) ?_
  refine lv_iconst (v := 1) hx hb dL_law_1009 (by decide) ?_
  refine lv_iadd hx hb dL_law_1010 ?_
  refine lq_i 1 (by decide) ?_
  refine va_sld hx hb hX hbl hbA hS (show vp_in 1 6 by unfold vp_in; decide) dL_law_1011 ?_
  refine lq_i (xs 1) rfl ?_
  have hFx := fr_all hDx hS hA
  refine va_calli (va_runV (As := [.int (xs 1)]) (rest := []) ⟨hx, hb, hml, hown, hts⟩ (px_on l dC dI csx adx H hPx (hDx.weaken (fun _ _ _ _ => trivial)) (xs 1)) (cwV 1 hts gq_X11_on rfl rfl rfl (by decide +kernel) ⟨Nat.le_of_ble_eq_true rfl, Nat.le_of_ble_eq_true rfl⟩) ⟨pb_c, va_recv hKx hPx (ci := 11) (q0 := 0) rfl rfl, pb_m hKx⟩ rfl rfl hl.1 rfl (lv_room (Nat.le_of_ble_eq_true rfl)) dL_law_1012 ⟨Nat.le_of_ble_eq_true rfl, Nat.le_of_ble_eq_true rfl⟩) hS (fun q _ h => hFx q h) hFx (fun r1 u t H1 locs ht hvm hw1 hB hz1 hk1 hS => ?_)
  have hPm := kp_rest hD hPm hk1
  refine lv_aload_n hx hb dL_law_1015 rfl (lv_at hl 1 rfl) ?_
  refine lv_aload_n hx hb dL_law_1016 rfl (lv_at hl 3 rfl) ?_
  refine lv_iload_n hx hb dL_law_1017 rfl (lv_at hl 0 rfl) ?_
  refine lv_iconst (v := 1) hx hb dL_law_1018 (by decide) ?_
  refine lv_iadd hx hb dL_law_1019 ?_
  refine lq_i 1 (by decide) ?_
  refine va_sld hx hb hX hbl hbA hS (show vp_in 1 6 by unfold vp_in; decide) dL_law_1020 ?_
  refine lq_i (xs 1) rfl ?_
  have hFm := fr_all hDm hS hA
  refine va_calli (va_runV (As := [.int (xs 1)]) (rest := [.int r1]) ⟨hx, hb, hml, hown, hts⟩ (pm_on l dC dI csm adm H1 hPm (hDm.weaken (fun _ _ _ _ => trivial)) (xs 1)) (cwV 1 hts gq_X12_on rfl rfl rfl (by decide +kernel) ⟨Nat.le_of_ble_eq_true rfl, Nat.le_of_ble_eq_true rfl⟩) ⟨pb_c, va_recv hKm hPm (ci := 12) (q0 := 0) rfl rfl, pb_m hKm⟩ rfl rfl hl.1 rfl (lv_room (Nat.le_of_ble_eq_true rfl)) dL_law_1021 ⟨Nat.le_of_ble_eq_true rfl, Nat.le_of_ble_eq_true rfl⟩) hS (fun q _ h => hFm q h) hFm (fun r2 u t H2 locs ht hvm hw2 hB hz1 hk1 hS => ?_)
  refine lv_icmp_eq (tgt := 1644) hx hb dL_law_1024 (by decide) (fun _ => ?_) (fun c => absurd (hw1.trans hw2.symm) c)
  exact le_end l C1 hS hl
