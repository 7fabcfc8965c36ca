set_option maxHeartbeats 4000000 in
set_option maxRecDepth 100000 in
/-- sx_needFor -/
theorem sx_needFor (l : Launch) (dC : Nat → ClassId) (dI : Nat → Nat → Nat) (cs : Nat → ClassId) (ad : Nat → Nat) (mu : Nat → Nat → Int32) (ok : okR loX hiX mu) (H : Heap) (hP : va_P (dC, dI) vwCl (wR 157 ad (EX cs ad) mu) H) (vs : Int32) (vp : Int32) : Met l yX5_needFor (wU yX5_needFor cX5_needFor 3 (some .int)) ({ frames := 0, cells := 0, slots := 0, locals := 0 }) (va_Pc [.ref (ad 32), .int vs, .int vp] (sz_P (dC, dI) vwCl (tyW cs) H)) (va_Qi (fun (z : Int32) (_ : Unit) => True) (fun _ t => t.heap = H) (fun _ => False)) 0 0 (fun _ => False) := by
  refine Met.ofW (cc := cX5_needFor) (maxL := 3) (ret := (some .int)) (by decide) rfl ?_
  intro p e s m args below meth c s₁ B hml hv
  obtain ⟨rfl, hh, hK, hz⟩ := hv
  have hx := B.exec
  have hb := B.bytes
  have hr := B.returns
  have hts := atoms_spec (ws := (wU yX5_needFor cX5_needFor 3 (some .int))) B.pre
  have hown : s.vm.findClass RX5 = some m.cls := findClass_of_methodNamed B.named
  have hlocks := B.notSynchronized
  subst hh
  have hS : va_S (fun _ => False) s.heap s.heap [] := va_S.rf
  have hl := lv_entry ([.ref (ad 32), .int vs, .int vp]) (n := 3) (Nat.le_of_ble_eq_true rfl)
  rw [lg_entry_eq]
  generalize (lg_sl ([.ref (ad 32), .int vs, .int vp]) ++ List.replicate (3 - (lg_sl ([.ref (ad 32), .int vs, .int vp])).length) Slot.unset).toArray = ls at hl ⊢
  have hl : lv_has ls 3 [(0, .ref (ad 32)), (1, .int vs), (2, .int vp)] := hl
  refine lv_iload_n hx hb dX5_needFor_0 rfl (lv_at hl 2 rfl) ?_
  refine lv_if_ne (tgt := 8) hx hb dX5_needFor_1 (by decide) (fun c_1 => ?_) (fun c_1 => ?_)
  · have c_1 : ¬ vp.toInt = 0 := il_ne c_1
    refine lv_iload_n hx hb dX5_needFor_8 rfl (lv_at hl 2 rfl) ?_
    refine lv_aload_n hx hb dX5_needFor_9 rfl (lv_at hl 0 rfl) ?_
    refine va_get (D := (dC, dI)) (ci := 5) (v := .int (mu 32 9)) (C := RX5) (T := TX5) (N := 15) hx hb hts inG5 hown hK hP 32 (gX_32 cs ad mu) rfl 9 (by decide) (hts _ (List.mem_cons_of_mem _ mw_2_57)) (fun _ h9 => h9) rfl dX5_needFor_10 ?_
    refine lv_topi (fun y2 ey2 => ?_)
    have by2 : y2.toInt = (mu 32 9).toInt := congrArg Int32.toInt ey2
    refine lv_aload_n hx hb dX5_needFor_13 rfl (lv_at hl 0 rfl) ?_
    refine va_get (D := (dC, dI)) (ci := 5) (v := .int (mu 32 10)) (C := RX5) (T := TX5) (N := 15) hx hb hts inG5 hown hK hP 32 (gX_32 cs ad mu) rfl 10 (by decide) (hts _ (List.mem_cons_of_mem _ mw_2_58)) (fun _ h9 => h9) rfl dX5_needFor_14 ?_
    refine lv_topi (fun y3 ey3 => ?_)
    have by3 : y3.toInt = (mu 32 10).toInt := congrArg Int32.toInt ey3
    refine lv_iload_n hx hb dX5_needFor_17 rfl (lv_at hl 1 rfl) ?_
    refine lv_iadd hx hb dX5_needFor_18 ?_
    refine lv_topi (fun t4 et4 => ?_)
    refine lv_iconst (v := 1) hx hb dX5_needFor_19 (by decide) ?_
    refine lv_isub hx hb dX5_needFor_20 ?_
    refine lv_topi (fun t5 et5 => ?_)
    refine lv_imul hx hb dX5_needFor_21 ?_
    refine lv_topi (fun t6 et6 => ?_)
    refine lv_iadd hx hb dX5_needFor_22 ?_
    refine lv_topi (fun t7 et7 => ?_)
    exact W.iret (v := t7) hx hb hr (fun t ht hW => ⟨⟨t7, (), rfl, trivial, ht⟩, hS.F ht⟩) hS.2.2 dX5_needFor_23
  · have c_1 : vp.toInt = 0 := il_eq c_1
    refine lv_iconst (v := 0) hx hb dX5_needFor_4 (by decide) ?_
    refine lv_goto (tgt := 23) hx hb dX5_needFor_5 (by decide) ?_
    exact W.iret (v := 0) hx hb hr (fun t ht hW => ⟨⟨0, (), rfl, trivial, ht⟩, hS.F ht⟩) hS.2.2 dX5_needFor_23
