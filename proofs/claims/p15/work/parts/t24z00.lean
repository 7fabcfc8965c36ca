set_option maxHeartbeats 4000000 in
set_option maxRecDepth 100000 in
/-- sm_divisor -/
theorem sm_divisor (l : Launch) (dC : Nat → ClassId) (dI : Nat → Nat → Nat) (tys : List (ClassId × FieldType)) (H : Heap) (va : Int32) (vb : Int32) (hin0 : ¬ vb.toInt = 0) : Met l yX12_divisor (wU yX12_divisor cX12_divisor 5 (some .int)) ({ frames := 0, cells := 0, slots := 0, locals := 0 }) (va_Pc [.int va, .int vb] (sz_P (dC, dI) vwCl tys H)) (va_Qi (fun (z : Int32) (_ : Unit) => z = F_sm_divisor va vb ∧ (¬ z.toInt = 0)) (fun _ t => t.heap = H) (fun _ => False)) 0 0 (fun _ => False) := by
  refine Met.ofW (cc := cX12_divisor) (maxL := 5) (ret := (some .int)) (by decide) rfl ?_
  intro p e s m args below meth c s₁ B hml hv
  obtain ⟨rfl, hh, hK, hz⟩ := hv
  have hx := B.exec
  have hb := B.bytes
  have hr := B.returns
  have hts := atoms_spec (ws := (wU yX12_divisor cX12_divisor 5 (some .int))) B.pre
  have hown : s.vm.findClass RX12 = some m.cls := findClass_of_methodNamed B.named
  have hlocks := B.notSynchronized
  subst hh
  have hS : va_S (fun _ => False) s.heap s.heap [] := va_S.rf
  have hl := lv_entry ([.int va, .int vb]) (n := 5) (Nat.le_of_ble_eq_true rfl)
  rw [lg_entry_eq]
  generalize (lg_sl ([.int va, .int vb]) ++ List.replicate (5 - (lg_sl ([.int va, .int vb])).length) Slot.unset).toArray = ls at hl ⊢
  have hl : lv_has ls 5 [(0, .int va), (1, .int vb)] := hl
  obtain ⟨fz, hfz⟩ : ∃ z, F_sm_divisor va vb = z := ⟨_, rfl⟩
  have hF := hfz
  unfold F_sm_divisor at hF
  refine lv_iload_n hx hb dX12_divisor_0 rfl (lv_at hl 0 rfl) ?_
  refine lv_istore_n (lv' := [(2, .int va), (0, .int va), (1, .int vb)]) hx hb dX12_divisor_1 rfl hl (by decide) rfl (fun ls hl => ?_)
  refine lv_iload_n hx hb dX12_divisor_2 rfl (lv_at hl 2 rfl) ?_
  refine lv_istore_n (lv' := [(3, .int vb), (2, .int va), (0, .int va), (1, .int vb)]) hx hb dX12_divisor_3 rfl hl (by decide) rfl (fun ls hl => ?_)
  have loop4 : ∀ (n4 : Nat) (v2_4 : Int32) (v3_4 : Int32) (locs : List Loc) (ls : Array Slot), v3_4.toInt.natAbs < n4 → (¬ v2_4.toInt = 0 ∨ ¬ v3_4.toInt = 0) → L_sm_divisor_4_0 n4 v2_4 v3_4 = fz → va_S (fun _ => False) s.heap s.heap locs → lv_has ls 5 [(3, .int v3_4), (2, .int v2_4), (0, .int va), (1, .int vb)] → W p l e (headSpec (wU yX12_divisor cX12_divisor 5 (some .int)) ({ frames := 0, cells := 0, slots := 0, locals := 0 })).room s m ([.int va, .int vb] : List Value).toArray below meth c s.heap locs 0 0 (MQ below (va_Qi (fun (z : Int32) (_ : Unit) => z = F_sm_divisor va vb ∧ (¬ z.toInt = 0)) (fun _ t => t.heap = s.heap) (fun _ => False)) ([.int va, .int vb] : List Value).toArray s 0 0 (fun _ => False)) (F0 m 4 ls []) := by
    intro n4
    induction n4 with
    | zero => intro v2_4 v3_4 locs ls hm; exact absurd hm (Nat.not_lt_zero _)
    | succ n4 ih4 =>
      intro v2_4 v3_4 locs ls hm hi4_0 hF hS hl
      rw [L_sm_divisor_4_0] at hF
      refine lv_iload_n hx hb dX12_divisor_4 rfl (lv_at hl 0 rfl) ?_
      refine lv_if_eq (tgt := 21) hx hb dX12_divisor_5 (by decide) (fun c_1 => ?_) (fun c_1 => ?_)
      · have hF := (if_pos c_1).symm.trans hF
        have c_1 : v3_4.toInt = 0 := il_eq c_1
        refine lv_iload_n hx hb dX12_divisor_21 rfl (lv_at hl 1 rfl) ?_
        exact W.iret (v := v2_4) hx hb hr (fun t ht hW => ⟨⟨v2_4, (), rfl, ⟨hF.trans hfz.symm, (by omega)⟩, ht⟩, hS.F ht⟩) hS.2.2 dX12_divisor_22
      · have hF := (if_neg c_1).symm.trans hF
        have c_1 : ¬ v3_4.toInt = 0 := il_ne c_1
        refine lv_iload_n hx hb dX12_divisor_8 rfl (lv_at hl 1 rfl) ?_
        refine lv_iload_n hx hb dX12_divisor_9 rfl (lv_at hl 0 rfl) ?_
        refine lv_irem hx hb dX12_divisor_10 (fun h9 => by have h8 := congrArg Int32.toInt h9; have h7 : (0 : Int32).toInt = 0 := rfl; omega) ?_
        refine lv_topi (fun t2 et2 => ?_)
        have hF := mi_let hF et2
        refine lv_istore (lv' := [(4, .int t2), (3, .int v3_4), (2, .int v2_4), (0, .int va), (1, .int vb)]) hx hb dX12_divisor_11 hl (by decide) rfl (fun ls hl => ?_)
        refine lv_iload_n hx hb dX12_divisor_13 rfl (lv_at hl 1 rfl) ?_
        refine lv_istore_n (lv' := [(2, .int v3_4), (4, .int t2), (3, .int v3_4), (0, .int va), (1, .int vb)]) hx hb dX12_divisor_14 rfl hl (by decide) rfl (fun ls hl => ?_)
        refine lv_iload hx hb dX12_divisor_15 (lv_at hl 1 rfl) ?_
        refine lv_istore_n (lv' := [(3, .int t2), (2, .int v3_4), (4, .int t2), (0, .int va), (1, .int vb)]) hx hb dX12_divisor_17 rfl hl (by decide) rfl (fun ls hl => ?_)
        refine lv_goto (tgt := 4) hx hb dX12_divisor_18 (by decide) ?_
        exact ih4 (v3_4) (t2)  _ _ (by have h8 := rem_lt (x := v2_4) (y := v3_4) (by omega); rw [← irem_eq, ← et2] at h8; omega)  (by omega)  hF hS (lv_sub hl [0, 1, 3, 4] rfl)
  exact loop4 2147483650 (va) (vb)  _ _ (by have h1 := tI_lo vb; have h2 := tI_hi vb; omega)  (by omega)  hF hS hl
