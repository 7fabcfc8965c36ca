set_option maxHeartbeats 4000000 in
set_option maxRecDepth 100000 in
/-- sx_buys -/
theorem sx_buys (l : Launch) (dC : Nat → ClassId) (dI : Nat → Nat → Nat) (cs : Nat → ClassId) (ad : Nat → Nat) (mu : Nat → Nat → Int32) (ok : okR loX hiX mu) (H : Heap) (hP : va_P (dC, dI) vwCl (wR 157 ad (EX cs ad) mu) H) (vx : Int32) (vy : Int32) (vu : Int32) (vp : Int32) (hin0 : 0 ≤ vx.toInt ∧ vx.toInt ≤ 6 ∧ 0 ≤ vy.toInt ∧ vy.toInt ≤ 6) : Met l yX5_buys (wU yX5_buys cX5_buys 6 (some .boolean)) ({ frames := 1, cells := 0, slots := 0, locals := 21 }) (va_Pc [.ref (ad 32), .ref (ad 4), .int vx, .int vy, .int vu, .int vp] (sz_P (dC, dI) vwCl (tyW cs) H)) (va_Qi (fun (z : Int32) (_ : Unit) => 0 ≤ z.toInt ∧ z.toInt ≤ 1) (fun _ t => t.heap = H) (fun _ => False)) 0 0 (fun _ => False) := by
  refine Met.ofW (cc := cX5_buys) (maxL := 6) (ret := (some .boolean)) (by decide) rfl ?_
  intro p e s m args below meth c s₁ B hml hv
  obtain ⟨rfl, hh, hK, hz⟩ := hv
  have hx := B.exec
  have hb := B.bytes
  have hr := B.returns
  have hts := atoms_spec (ws := (wU yX5_buys cX5_buys 6 (some .boolean))) B.pre
  have hown : s.vm.findClass RX5 = some m.cls := findClass_of_methodNamed B.named
  have hlocks := B.notSynchronized
  subst hh
  have hS : va_S (fun _ => False) s.heap s.heap [] := va_S.rf
  have hl := lv_entry ([.ref (ad 32), .ref (ad 4), .int vx, .int vy, .int vu, .int vp]) (n := 6) (Nat.le_of_ble_eq_true rfl)
  rw [lg_entry_eq]
  generalize (lg_sl ([.ref (ad 32), .ref (ad 4), .int vx, .int vy, .int vu, .int vp]) ++ List.replicate (6 - (lg_sl ([.ref (ad 32), .ref (ad 4), .int vx, .int vy, .int vu, .int vp])).length) Slot.unset).toArray = ls at hl ⊢
  have hl : lv_has ls 6 [(0, .ref (ad 32)), (1, .ref (ad 4)), (2, .int vx), (3, .int vy), (4, .int vu), (5, .int vp)] := hl
  refine lv_aload_n hx hb dX5_buys_0 rfl (lv_at hl 0 rfl) ?_
  refine va_get (D := (dC, dI)) (ci := 5) (v := .ref (ad 52)) (C := RX5) (T := TX5) (N := 15) hx hb hts inG5 hown hK hP 32 (gX_32 cs ad mu) rfl 0 (by decide) (hts _ (List.mem_cons_of_mem _ mw_2_46)) (fun _ h9 => h9) rfl dX5_buys_1 ?_
  refine lv_iload_n hx hb dX5_buys_4 rfl (lv_at hl 2 rfl) ?_
  refine va_iald hx hb hK hP 52 0 (gX_52 cs ad mu) rfl (show vp_in vx 7 from vi_of (by omega) (by omega)) dX5_buys_5 ?_
  refine lv_topi (fun y1 ey1 => ?_)
  have by1 : y1.toInt = (mu 52 vx.toNatClampNeg).toInt := congrArg Int32.toInt ey1
  refine lv_iload_n hx hb dX5_buys_6 rfl (lv_at hl 3 rfl) ?_
  refine cr_i (va_runSN (As := [.int y1, .int vy]) (rest := []) ⟨hx, hb, hml, hown, hts⟩ (sx_hasBit l dC dI (tyW cs) s.heap y1 vy) ⟨va_cnB 2 hts (wU_in mw_3_87) rfl rfl rfl (hz.2.2.2.2.2.2.2.2.2.2.2.2.2.2.1) (hts _ (List.mem_cons_of_mem _ mw_1_1)) (by decide +kernel) ⟨Nat.le_of_ble_eq_true rfl, Nat.le_of_ble_eq_true rfl⟩, (hts _ (List.mem_cons_of_mem _ mw_3_86)), trivial⟩ ⟨sz_c, sz_m hK hz⟩ rfl rfl hl.1 rfl (lv_room (Nat.le_of_ble_eq_true rfl)) dX5_buys_7 ⟨Nat.zero_le _, Nat.zero_le _⟩) hS (fun r2 hw2 locs hS => ?_)
  obtain ⟨hfe2, hw2⟩ := hw2
  have gr2 : 0 ≤ r2.toInt ∧ r2.toInt ≤ 1 := hw2
  refine lv_if_eq (tgt := 55) hx hb dX5_buys_10 (by decide) (fun c_3 => ?_) (fun c_3 => ?_)
  · have c_3 : r2.toInt = 0 := il_eq c_3
    refine lv_iconst (v := 0) hx hb dX5_buys_55 (by decide) ?_
    exact W.zret (v := 0) (ty := .boolean) hx hb hr (by first | rfl | decide) (fun t ht hW => ⟨⟨0, (), rfl, (by have h6 : (0 : Int32).toInt = 0 := rfl; omega), ht⟩, hS.F ht⟩) hS.2.2 dX5_buys_56
  · have c_3 : ¬ r2.toInt = 0 := il_ne c_3
    refine lv_iload hx hb dX5_buys_13 (lv_at hl 4 rfl) ?_
    refine lv_iload_n hx hb dX5_buys_15 rfl (lv_at hl 3 rfl) ?_
    refine cr_i (va_runSN (As := [.int vu, .int vy]) (rest := []) ⟨hx, hb, hml, hown, hts⟩ (sx_hasBit l dC dI (tyW cs) s.heap vu vy) ⟨va_cnB 2 hts (wU_in mw_3_87) rfl rfl rfl (hz.2.2.2.2.2.2.2.2.2.2.2.2.2.2.1) (hts _ (List.mem_cons_of_mem _ mw_1_1)) (by decide +kernel) ⟨Nat.le_of_ble_eq_true rfl, Nat.le_of_ble_eq_true rfl⟩, (hts _ (List.mem_cons_of_mem _ mw_3_86)), trivial⟩ ⟨sz_c, sz_m hK hz⟩ rfl rfl hl.1 rfl (lv_room (Nat.le_of_ble_eq_true rfl)) dX5_buys_16 ⟨Nat.zero_le _, Nat.zero_le _⟩) hS (fun r4 hw4 locs hS => ?_)
    obtain ⟨hfe4, hw4⟩ := hw4
    have gr4 : 0 ≤ r4.toInt ∧ r4.toInt ≤ 1 := hw4
    refine lv_if_ne (tgt := 55) hx hb dX5_buys_19 (by decide) (fun c_5 => ?_) (fun c_5 => ?_)
    · have c_5 : ¬ r4.toInt = 0 := il_ne c_5
      refine lv_iconst (v := 0) hx hb dX5_buys_55 (by decide) ?_
      exact W.zret (v := 0) (ty := .boolean) hx hb hr (by first | rfl | decide) (fun t ht hW => ⟨⟨0, (), rfl, (by have h6 : (0 : Int32).toInt = 0 := rfl; omega), ht⟩, hS.F ht⟩) hS.2.2 dX5_buys_56
    · have c_5 : r4.toInt = 0 := il_eq c_5
      refine lv_aload_n hx hb dX5_buys_22 rfl (lv_at hl 0 rfl) ?_
      refine va_get (D := (dC, dI)) (ci := 5) (v := .ref (ad 53)) (C := RX5) (T := TX5) (N := 15) hx hb hts inG5 hown hK hP 32 (gX_32 cs ad mu) rfl 1 (by decide) (hts _ (List.mem_cons_of_mem _ mw_2_47)) (fun _ h9 => h9) rfl dX5_buys_23 ?_
      refine lv_iload_n hx hb dX5_buys_26 rfl (lv_at hl 3 rfl) ?_
      refine va_iald hx hb hK hP 53 0 (gX_53 cs ad mu) rfl (show vp_in vy 7 from vi_of (by omega) (by omega)) dX5_buys_27 ?_
      refine lv_topi (fun y6 ey6 => ?_)
      have by6 : y6.toInt = (mu 53 vy.toNatClampNeg).toInt := congrArg Int32.toInt ey6
      refine lv_iload hx hb dX5_buys_28 (lv_at hl 5 rfl) ?_
      refine lv_icmp_lt (tgt := 55) hx hb dX5_buys_30 (by decide) (fun c_7 => ?_) (fun c_7 => ?_)
      · have c_7 : y6.toInt < vp.toInt := il_lt c_7
        refine lv_iconst (v := 0) hx hb dX5_buys_55 (by decide) ?_
        exact W.zret (v := 0) (ty := .boolean) hx hb hr (by first | rfl | decide) (fun t ht hW => ⟨⟨0, (), rfl, (by have h6 : (0 : Int32).toInt = 0 := rfl; omega), ht⟩, hS.F ht⟩) hS.2.2 dX5_buys_56
      · have c_7 : vp.toInt ≤ y6.toInt := il_nlt c_7
        refine lv_iload_n hx hb dX5_buys_33 rfl (lv_at hl 3 rfl) ?_
        refine lv_aload_n hx hb dX5_buys_34 rfl (lv_at hl 0 rfl) ?_
        refine va_get (D := (dC, dI)) (ci := 5) (v := .int (mu 32 6)) (C := RX5) (T := TX5) (N := 15) hx hb hts inG5 hown hK hP 32 (gX_32 cs ad mu) rfl 6 (by decide) (hts _ (List.mem_cons_of_mem _ mw_2_54)) (fun _ h9 => h9) rfl dX5_buys_35 ?_
        refine lv_topi (fun y8 ey8 => ?_)
        have by8 : y8.toInt = (mu 32 6).toInt := congrArg Int32.toInt ey8
        have gy8 : 0 ≤ y8.toInt ∧ y8.toInt ≤ 6 := by rw [ey8]; exact rX_32_6 ok
        refine lv_icmp_eq (tgt := 51) hx hb dX5_buys_38 (by decide) (fun c_9 => ?_) (fun c_9 => ?_)
        · have c_9 : vy.toInt = y8.toInt := il_eq c_9
          refine lv_iconst (v := 1) hx hb dX5_buys_51 (by decide) ?_
          refine lv_goto (tgt := 56) hx hb dX5_buys_52 (by decide) ?_
          exact W.zret (v := 1) (ty := .boolean) hx hb hr (by first | rfl | decide) (fun t ht hW => ⟨⟨1, (), rfl, (by have h6 : (1 : Int32).toInt = 1 := rfl; omega), ht⟩, hS.F ht⟩) hS.2.2 dX5_buys_56
        · have c_9 : ¬ vy.toInt = y8.toInt := il_ne c_9
          refine lv_aload_n hx hb dX5_buys_41 rfl (lv_at hl 1 rfl) ?_
          refine va_get (D := (dC, dI)) (ci := 10) (v := .ref (ad 34)) (C := RX10) (T := TX10) (N := 8) hx hb hts inG10 hown hK hP 4 (gX_4 cs ad mu) rfl 0 (by decide) (hts _ (List.mem_cons_of_mem _ mw_1_146)) (fun _ h9 => h9) rfl dX5_buys_42 ?_
          refine lv_iload_n hx hb dX5_buys_45 rfl (lv_at hl 3 rfl) ?_
          refine va_iald hx hb hK hP 34 0 (gX_34 cs ad mu) rfl (show vp_in vy 7 from vi_of (by omega) (by omega)) dX5_buys_46 ?_
          refine lv_topi (fun y10 ey10 => ?_)
          have by10 : y10.toInt = (mu 34 vy.toNatClampNeg).toInt := congrArg Int32.toInt ey10
          refine lv_iconst (v := 3) hx hb dX5_buys_47 (by decide) ?_
          refine lv_icmp_eq (tgt := 55) hx hb dX5_buys_48 (by decide) (fun c_11 => ?_) (fun c_11 => ?_)
          · have c_11 : y10.toInt = 3 := il_eq c_11
            refine lv_iconst (v := 0) hx hb dX5_buys_55 (by decide) ?_
            exact W.zret (v := 0) (ty := .boolean) hx hb hr (by first | rfl | decide) (fun t ht hW => ⟨⟨0, (), rfl, (by have h6 : (0 : Int32).toInt = 0 := rfl; omega), ht⟩, hS.F ht⟩) hS.2.2 dX5_buys_56
          · have c_11 : ¬ y10.toInt = 3 := il_ne c_11
            refine lv_iconst (v := 1) hx hb dX5_buys_51 (by decide) ?_
            refine lv_goto (tgt := 56) hx hb dX5_buys_52 (by decide) ?_
            exact W.zret (v := 1) (ty := .boolean) hx hb hr (by first | rfl | decide) (fun t ht hW => ⟨⟨1, (), rfl, (by have h6 : (1 : Int32).toInt = 1 := rfl; omega), ht⟩, hS.F ht⟩) hS.2.2 dX5_buys_56
