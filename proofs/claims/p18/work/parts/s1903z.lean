set_option maxHeartbeats 4000000 in
set_option maxRecDepth 100000 in
/-- sx_isFull -/
theorem sx_isFull (l : Launch) (dC : Nat → ClassId) (dI : Nat → Nat → Nat) (cs : Nat → ClassId) (ad : Nat → Nat) (mu : Nat → Nat → Int32) (ok : okR loX hiX mu) (H : Heap) (hP : va_P (dC, dI) vwCl (wR 157 ad (EX cs ad) mu) H) : Met l yX2_isFull (wU yX2_isFull cX2_isFull 1 (some .boolean)) ({ frames := 0, cells := 0, slots := 0, locals := 0 }) (va_Pc [.ref (ad 6)] (sz_P (dC, dI) vwCl (tyW cs) H)) (va_Qi (fun (z : Int32) (_ : Unit) => z = F_sx_isFull mu ∧ ((z = 1 ∧ (40 ≤ (mu 6 1).toInt)) ∨ (z = 0 ∧ ((mu 6 1).toInt ≤ 39)))) (fun _ t => t.heap = H) (fun _ => False)) 0 0 (fun _ => False) := by
  refine Met.ofW (cc := cX2_isFull) (maxL := 1) (ret := (some .boolean)) (by decide) rfl ?_
  intro p e s m args below meth c s₁ B hml hv
  obtain ⟨rfl, hh, hK, hz⟩ := hv
  have hx := B.exec
  have hb := B.bytes
  have hr := B.returns
  have hts := atoms_spec (ws := (wU yX2_isFull cX2_isFull 1 (some .boolean))) B.pre
  have hown : s.vm.findClass RX2 = some m.cls := findClass_of_methodNamed B.named
  have hlocks := B.notSynchronized
  subst hh
  have hS : va_S (fun _ => False) s.heap s.heap [] := va_S.rf
  have hl := lv_entry ([.ref (ad 6)]) (n := 1) (Nat.le_of_ble_eq_true rfl)
  rw [lg_entry_eq]
  generalize (lg_sl ([.ref (ad 6)]) ++ List.replicate (1 - (lg_sl ([.ref (ad 6)])).length) Slot.unset).toArray = ls at hl ⊢
  have hl : lv_has ls 1 [(0, .ref (ad 6))] := hl
  obtain ⟨fz, hfz⟩ : ∃ z, F_sx_isFull mu = z := ⟨_, rfl⟩
  have hF := hfz
  unfold F_sx_isFull at hF
  refine lv_aload_n hx hb dX2_isFull_0 rfl (lv_at hl 0 rfl) ?_
  refine va_get (D := (dC, dI)) (ci := 2) (v := .int (mu 6 1)) (C := RX2) (T := TX2) (N := 2) hx hb hts inG2 hown hK hP 6 (gX_6 cs ad mu) rfl 1 (by decide) (hts _ (List.mem_cons_of_mem _ mw_2_7)) (fun _ h9 => h9) rfl dX2_isFull_1 ?_
  refine lv_topi (fun y1 ey1 => ?_)
  have hF := mi_let hF ey1
  have by1 : y1.toInt = (mu 6 1).toInt := congrArg Int32.toInt ey1
  have gy1 : 0 ≤ y1.toInt ∧ y1.toInt ≤ 40 := by rw [ey1]; exact rX_6_1 ok
  refine lv_bipush (v := 40) hx hb dX2_isFull_4 (by decide) ?_
  refine lv_icmp_lt (tgt := 13) hx hb dX2_isFull_6 (by decide) (fun c_2 => ?_) (fun c_2 => ?_)
  · have hF := (if_pos c_2).symm.trans hF
    have c_2 : y1.toInt < 40 := il_lt c_2
    refine lv_iconst (v := 0) hx hb dX2_isFull_13 (by decide) ?_
    exact W.zret (v := 0) (ty := .boolean) hx hb hr (by first | rfl | decide) (fun t ht hW => ⟨⟨0, (), rfl, ⟨hF.trans hfz.symm, (Or.inr ⟨rfl, by have hb3 := congrArg Int32.toInt ey1; omega⟩)⟩, ht⟩, hS.F ht⟩) hS.2.2 dX2_isFull_14
  · have hF := (if_neg c_2).symm.trans hF
    have c_2 : 40 ≤ y1.toInt := il_nlt c_2
    refine lv_iconst (v := 1) hx hb dX2_isFull_9 (by decide) ?_
    refine lv_goto (tgt := 14) hx hb dX2_isFull_10 (by decide) ?_
    exact W.zret (v := 1) (ty := .boolean) hx hb hr (by first | rfl | decide) (fun t ht hW => ⟨⟨1, (), rfl, ⟨hF.trans hfz.symm, (Or.inl ⟨rfl, by have hb4 := congrArg Int32.toInt ey1; omega⟩)⟩, ht⟩, hS.F ht⟩) hS.2.2 dX2_isFull_14
