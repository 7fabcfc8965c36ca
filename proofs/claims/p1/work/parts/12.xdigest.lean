theorem dX11_digest_0 : decode cX11_digest 0 = .ok (.ldc2_w 369, 3) := by decide +kernel
theorem dX11_digest_3 : decode cX11_digest 3 = .ok (.lstore_n 1, 1) := by decide +kernel
theorem dX11_digest_4 : decode cX11_digest 4 = .ok (.iconst 0, 1) := by decide +kernel
theorem dX11_digest_5 : decode cX11_digest 5 = .ok (.istore_n 3, 1) := by decide +kernel
theorem dX11_digest_6 : decode cX11_digest 6 = .ok (.iload_n 3, 1) := by decide +kernel
theorem dX11_digest_7 : decode cX11_digest 7 = .ok (.bipush 9, 2) := by decide +kernel
theorem dX11_digest_9 : decode cX11_digest 9 = .ok (.if_icmp .ge 22, 3) := by decide +kernel
theorem dX11_digest_12 : decode cX11_digest 12 = .ok (.ldc2_w 371, 3) := by decide +kernel
theorem dX11_digest_15 : decode cX11_digest 15 = .ok (.lload_n 1, 1) := by decide +kernel
theorem dX11_digest_16 : decode cX11_digest 16 = .ok (.lmul, 1) := by decide +kernel
theorem dX11_digest_17 : decode cX11_digest 17 = .ok (.aload_n 0, 1) := by decide +kernel
theorem dX11_digest_18 : decode cX11_digest 18 = .ok (.iload_n 3, 1) := by decide +kernel
theorem dX11_digest_19 : decode cX11_digest 19 = .ok (.invokevirtual 373, 3) := by decide +kernel
theorem dX11_digest_22 : decode cX11_digest 22 = .ok (.i2l, 1) := by decide +kernel
theorem dX11_digest_23 : decode cX11_digest 23 = .ok (.ladd, 1) := by decide +kernel
theorem dX11_digest_24 : decode cX11_digest 24 = .ok (.lstore_n 1, 1) := by decide +kernel
theorem dX11_digest_25 : decode cX11_digest 25 = .ok (.iinc 3 1, 3) := by decide +kernel
theorem dX11_digest_28 : decode cX11_digest 28 = .ok (.goto (-22), 3) := by decide +kernel
theorem dX11_digest_31 : decode cX11_digest 31 = .ok (.aload_n 0, 1) := by decide +kernel
theorem dX11_digest_32 : decode cX11_digest 32 = .ok (.getfield 30, 3) := by decide +kernel
theorem dX11_digest_35 : decode cX11_digest 35 = .ok (.lload_n 1, 1) := by decide +kernel
theorem dX11_digest_36 : decode cX11_digest 36 = .ok (.invokevirtual 376, 3) := by decide +kernel
theorem dX11_digest_39 : decode cX11_digest 39 = .ok (.lstore_n 1, 1) := by decide +kernel
theorem dX11_digest_40 : decode cX11_digest 40 = .ok (.iconst 0, 1) := by decide +kernel
theorem dX11_digest_41 : decode cX11_digest 41 = .ok (.istore_n 3, 1) := by decide +kernel
theorem dX11_digest_42 : decode cX11_digest 42 = .ok (.iload_n 3, 1) := by decide +kernel
theorem dX11_digest_43 : decode cX11_digest 43 = .ok (.iconst 3, 1) := by decide +kernel
theorem dX11_digest_44 : decode cX11_digest 44 = .ok (.if_icmp .ge 42, 3) := by decide +kernel
theorem dX11_digest_47 : decode cX11_digest 47 = .ok (.ldc2_w 371, 3) := by decide +kernel
theorem dX11_digest_50 : decode cX11_digest 50 = .ok (.lload_n 1, 1) := by decide +kernel
theorem dX11_digest_51 : decode cX11_digest 51 = .ok (.lmul, 1) := by decide +kernel
theorem dX11_digest_52 : decode cX11_digest 52 = .ok (.aload_n 0, 1) := by decide +kernel
theorem dX11_digest_53 : decode cX11_digest 53 = .ok (.getfield 23, 3) := by decide +kernel
theorem dX11_digest_56 : decode cX11_digest 56 = .ok (.iload_n 3, 1) := by decide +kernel
theorem dX11_digest_57 : decode cX11_digest 57 = .ok (.aaload, 1) := by decide +kernel
theorem dX11_digest_58 : decode cX11_digest 58 = .ok (.getfield 135, 3) := by decide +kernel
theorem dX11_digest_61 : decode cX11_digest 61 = .ok (.ifCond .eq 15, 3) := by decide +kernel
theorem dX11_digest_76 : decode cX11_digest 76 = .ok (.iconst (-1), 1) := by decide +kernel
theorem dX11_digest_77 : decode cX11_digest 77 = .ok (.i2l, 1) := by decide +kernel
theorem dX11_digest_78 : decode cX11_digest 78 = .ok (.ladd, 1) := by decide +kernel
theorem dX11_digest_79 : decode cX11_digest 79 = .ok (.lstore_n 1, 1) := by decide +kernel
theorem dX11_digest_80 : decode cX11_digest 80 = .ok (.iinc 3 1, 3) := by decide +kernel
theorem dX11_digest_83 : decode cX11_digest 83 = .ok (.goto (-41), 3) := by decide +kernel
theorem dX11_digest_86 : decode cX11_digest 86 = .ok (.iconst 0, 1) := by decide +kernel
theorem dX11_digest_87 : decode cX11_digest 87 = .ok (.istore_n 3, 1) := by decide +kernel
theorem dX11_digest_88 : decode cX11_digest 88 = .ok (.iload_n 3, 1) := by decide +kernel
theorem dX11_digest_89 : decode cX11_digest 89 = .ok (.bipush 6, 2) := by decide +kernel
theorem dX11_digest_91 : decode cX11_digest 91 = .ok (.if_icmp .ge 20, 3) := by decide +kernel
theorem dX11_digest_94 : decode cX11_digest 94 = .ok (.aload_n 0, 1) := by decide +kernel
theorem dX11_digest_95 : decode cX11_digest 95 = .ok (.getfield 11, 3) := by decide +kernel
theorem dX11_digest_98 : decode cX11_digest 98 = .ok (.iload_n 3, 1) := by decide +kernel
theorem dX11_digest_99 : decode cX11_digest 99 = .ok (.aaload, 1) := by decide +kernel
theorem dX11_digest_100 : decode cX11_digest 100 = .ok (.lload_n 1, 1) := by decide +kernel
theorem dX11_digest_101 : decode cX11_digest 101 = .ok (.invokevirtual 380, 3) := by decide +kernel
theorem dX11_digest_104 : decode cX11_digest 104 = .ok (.lstore_n 1, 1) := by decide +kernel
theorem dX11_digest_105 : decode cX11_digest 105 = .ok (.iinc 3 1, 3) := by decide +kernel
theorem dX11_digest_108 : decode cX11_digest 108 = .ok (.goto (-20), 3) := by decide +kernel
theorem dX11_digest_111 : decode cX11_digest 111 = .ok (.iconst 0, 1) := by decide +kernel
theorem dX11_digest_112 : decode cX11_digest 112 = .ok (.istore_n 3, 1) := by decide +kernel
theorem dX11_digest_113 : decode cX11_digest 113 = .ok (.iload_n 3, 1) := by decide +kernel
theorem dX11_digest_114 : decode cX11_digest 114 = .ok (.iconst 4, 1) := by decide +kernel
theorem dX11_digest_115 : decode cX11_digest 115 = .ok (.if_icmp .ge 20, 3) := by decide +kernel
theorem dX11_digest_118 : decode cX11_digest 118 = .ok (.aload_n 0, 1) := by decide +kernel
theorem dX11_digest_119 : decode cX11_digest 119 = .ok (.getfield 17, 3) := by decide +kernel
theorem dX11_digest_122 : decode cX11_digest 122 = .ok (.iload_n 3, 1) := by decide +kernel
theorem dX11_digest_123 : decode cX11_digest 123 = .ok (.aaload, 1) := by decide +kernel
theorem dX11_digest_124 : decode cX11_digest 124 = .ok (.lload_n 1, 1) := by decide +kernel
theorem dX11_digest_125 : decode cX11_digest 125 = .ok (.invokevirtual 381, 3) := by decide +kernel
theorem dX11_digest_128 : decode cX11_digest 128 = .ok (.lstore_n 1, 1) := by decide +kernel
theorem dX11_digest_129 : decode cX11_digest 129 = .ok (.iinc 3 1, 3) := by decide +kernel
theorem dX11_digest_132 : decode cX11_digest 132 = .ok (.goto (-19), 3) := by decide +kernel
theorem dX11_digest_135 : decode cX11_digest 135 = .ok (.lload_n 1, 1) := by decide +kernel
theorem dX11_digest_136 : decode cX11_digest 136 = .ok (.lreturn, 1) := by decide +kernel
set_option maxRecDepth 20000 in
theorem ggX11_digest_X11_count : GoodIn wsX11_digest wsX11_count := goodIn_r _ [13, 3, 14, 15, 16, 6, 17, 18, 19, 20, 21, 22, 23, 24, 25, 26, 27, 28, 29, 30, 12, 31, 7, 32, 33, 34, 35, 36, 37, 38, 39, 40, 41, 8, 42, 43, 44, 45, 46, 47, 48, 49, 50, 51, 4, 5, 125, 126, 127, 128, 129, 130, 131, 132, 133, 134, 135, 142, 143, 144, 145, 146, 147, 148, 149, 136, 137, 138, 139, 140, 141, 150, 151, 152, 153, 154, 155] (by decide +kernel) (by decide +kernel)
set_option maxRecDepth 20000 in
theorem gX11_digest_X11_count : GoodIn wsX11_digest (wsV RX11 373 RX11 yX11_count wsX11_count) := goodIn_app (goodIn_of _ (by decide +kernel)) ggX11_digest_X11_count
set_option maxRecDepth 20000 in
theorem ggX11_digest_X10_digestOn : GoodIn wsX11_digest wsX10_digestOn := goodIn_r _ [56, 57, 58, 59, 60, 61, 62, 63, 64, 65, 66, 67, 68, 69, 55, 70, 71, 72, 73, 74, 75, 76, 77, 12, 78, 79, 22, 23, 24, 25, 26, 27, 80, 81, 82, 83, 84, 85, 86, 87, 88, 89, 90, 91, 92, 93, 94, 95, 96, 97, 98, 99, 100, 101, 102, 103, 104, 105, 106, 107, 108, 109, 110, 111, 112, 142, 143, 144, 145, 146, 147, 148, 149, 136, 137, 138, 139, 140, 141, 156, 157, 158, 159, 160, 161, 162, 163, 164, 165] (by decide +kernel) (by decide +kernel)
set_option maxRecDepth 20000 in
theorem gX11_digest_X10_digestOn : GoodIn wsX11_digest (wsV RX11 376 RX10 yX10_digestOn wsX10_digestOn) := goodIn_app (goodIn_of _ (by decide +kernel)) ggX11_digest_X10_digestOn
set_option maxRecDepth 20000 in
theorem ggX11_digest_X6_digestOn : GoodIn wsX11_digest wsX6_digestOn := goodIn_r _ [116, 117, 37, 118, 152, 153] (by decide +kernel) (by decide +kernel)
set_option maxRecDepth 20000 in
theorem gX11_digest_X6_digestOn : GoodIn wsX11_digest (wsV RX11 380 RX6 yX6_digestOn wsX6_digestOn) := goodIn_app (goodIn_of _ (by decide +kernel)) ggX11_digest_X6_digestOn
set_option maxRecDepth 20000 in
theorem ggX11_digest_X9_digestOn : GoodIn wsX11_digest wsX9_digestOn := goodIn_r _ [122, 123, 47, 124, 154, 155] (by decide +kernel) (by decide +kernel)
set_option maxRecDepth 20000 in
theorem gX11_digest_X9_digestOn : GoodIn wsX11_digest (wsV RX11 381 RX9 yX9_digestOn wsX9_digestOn) := goodIn_app (goodIn_of _ (by decide +kernel)) ggX11_digest_X9_digestOn
set_option maxHeartbeats 4000000 in
set_option maxRecDepth 100000 in
/-- digest -/
theorem px_digest (l : Launch) (dC : Nat → ClassId) (dI : Nat → Nat → Nat) (cs : Nat → ClassId) (ad : Nat → Nat) (H : Heap) (hP : va_P (dC, dI) vwCl (wX cs ad) H) : Met l yX11_digest wsX11_digest ({ frames := 3, cells := 0, slots := 0, locals := 63 }) (va_Pc [.ref (ad 0)] (pb_P (dC, dI) vwCl (tyX cs) H)) (va_Ql (fun (z : Int64) (_ : Unit) => z = (-1249613273421505008)) (fun _ t => t.heap = H) (fun _ => False)) 0 0 (fun _ => False) := by
  refine Met.ofW (cc := cX11_digest) (maxL := 4) (ret := (some .long)) (by decide) rfl ?_
  intro p e s m args below meth c s₁ B hml hv
  obtain ⟨rfl, hh, hK⟩ := hv
  have hx := B.exec
  have hb := B.bytes
  have hr := B.returns
  have hts := atoms_spec (ws := wsX11_digest) B.pre
  have hown : s.vm.findClass RX11 = some m.cls := findClass_of_methodNamed B.named
  have hlocks := B.notSynchronized
  subst hh
  have hS : va_S (fun _ => False) s.heap s.heap [] := va_S.rf
  have hl := lv_entry ([.ref (ad 0)]) (n := 4) (Nat.le_of_ble_eq_true rfl)
  rw [lg_entry_eq]
  generalize (lg_sl ([.ref (ad 0)]) ++ List.replicate (4 - (lg_sl ([.ref (ad 0)])).length) Slot.unset).toArray = ls at hl ⊢
  have hl : lv_has ls 4 [(0, .ref (ad 0))] := hl
  refine lv_ldc2 (v := 17) hx hb hown (hts (.constantLong RX11 369 17) (by decide +kernel)) dX11_digest_0 ?_
  refine lv_lstore_n (lv' := [(1, .long 17), (0, .ref (ad 0))]) hx hb dX11_digest_3 rfl hl (by decide) rfl (fun ls hl => ?_)
  refine lv_iconst (v := 0) hx hb dX11_digest_4 (by decide) ?_
  refine lv_istore_n (lv' := [(3, .int 0), (1, .long 17), (0, .ref (ad 0))]) hx hb dX11_digest_5 rfl hl (by decide) rfl (fun ls hl => ?_)
  refine lv_iload_n hx hb dX11_digest_6 rfl (lv_at hl 0 rfl) ?_
  refine lv_bipush (v := 9) hx hb dX11_digest_7 (by decide) ?_
  refine lv_icmp_ge (tgt := 31) hx hb dX11_digest_9 (by decide) (fun c => absurd c (by decide)) (fun _ => ?_)
  refine lv_ldc2 (v := 31) hx hb hown (hts (.constantLong RX11 371 31) (by decide +kernel)) dX11_digest_12 ?_
  refine lv_lload_n hx hb dX11_digest_15 rfl (lv_at hl 1 rfl) ?_
  refine lv_lmul hx hb dX11_digest_16 ?_
  refine lq_l 527 (by decide +kernel) ?_
  refine lv_aload_n hx hb dX11_digest_17 rfl (lv_at hl 2 rfl) ?_
  refine lv_iload_n hx hb dX11_digest_18 rfl (lv_at hl 0 rfl) ?_
  refine cr_i (va_runV (As := [.int 0]) (rest := [.long 527]) ⟨hx, hb, hml, hown, hts⟩ (px_count l dC dI cs ad s.heap hP 0) (cwV 1 hts gX11_digest_X11_count rfl rfl rfl (by decide +kernel) ⟨Nat.le_of_ble_eq_true rfl, Nat.le_of_ble_eq_true rfl⟩) ⟨pb_c, va_recv hK hP (ci := 11) (q0 := 0) rfl rfl, pb_m hK⟩ rfl rfl hl.1 rfl (lv_room (Nat.le_of_ble_eq_true rfl)) dX11_digest_19 ⟨Nat.zero_le _, Nat.zero_le _⟩) hS (fun r_1 hw_1 locs hS => ?_)
  obtain rfl : r_1 = 0 := hw_1.trans (by decide +kernel)
  refine lv_i2l (v := 0) hx hb dX11_digest_22 (by decide) ?_
  refine lv_ladd hx hb dX11_digest_23 ?_
  refine lq_l 527 (by decide +kernel) ?_
  refine lv_lstore_n (lv' := [(1, .long 527), (3, .int 0), (0, .ref (ad 0))]) hx hb dX11_digest_24 rfl hl (by decide) rfl (fun ls hl => ?_)
  refine lv_iinc (v := 1) (lv' := [(3, .int 1), (1, .long 527), (0, .ref (ad 0))]) hx hb dX11_digest_25 hl (k := 1) rfl (by decide) (by decide) rfl (fun ls hl => ?_)
  refine lv_goto (tgt := 6) hx hb dX11_digest_28 (by decide) ?_
  refine lv_iload_n hx hb dX11_digest_6 rfl (lv_at hl 0 rfl) ?_
  refine lv_bipush (v := 9) hx hb dX11_digest_7 (by decide) ?_
  refine lv_icmp_ge (tgt := 31) hx hb dX11_digest_9 (by decide) (fun c => absurd c (by decide)) (fun _ => ?_)
  refine lv_ldc2 (v := 31) hx hb hown (hts (.constantLong RX11 371 31) (by decide +kernel)) dX11_digest_12 ?_
  refine lv_lload_n hx hb dX11_digest_15 rfl (lv_at hl 1 rfl) ?_
  refine lv_lmul hx hb dX11_digest_16 ?_
  refine lq_l 16337 (by decide +kernel) ?_
  refine lv_aload_n hx hb dX11_digest_17 rfl (lv_at hl 2 rfl) ?_
  refine lv_iload_n hx hb dX11_digest_18 rfl (lv_at hl 0 rfl) ?_
  refine cr_i (va_runV (As := [.int 1]) (rest := [.long 16337]) ⟨hx, hb, hml, hown, hts⟩ (px_count l dC dI cs ad s.heap hP 1) (cwV 1 hts gX11_digest_X11_count rfl rfl rfl (by decide +kernel) ⟨Nat.le_of_ble_eq_true rfl, Nat.le_of_ble_eq_true rfl⟩) ⟨pb_c, va_recv hK hP (ci := 11) (q0 := 0) rfl rfl, pb_m hK⟩ rfl rfl hl.1 rfl (lv_room (Nat.le_of_ble_eq_true rfl)) dX11_digest_19 ⟨Nat.zero_le _, Nat.zero_le _⟩) hS (fun r_2 hw_2 locs hS => ?_)
  obtain rfl : r_2 = 0 := hw_2.trans (by decide +kernel)
  refine lv_i2l (v := 0) hx hb dX11_digest_22 (by decide) ?_
  refine lv_ladd hx hb dX11_digest_23 ?_
  refine lq_l 16337 (by decide +kernel) ?_
  refine lv_lstore_n (lv' := [(1, .long 16337), (3, .int 1), (0, .ref (ad 0))]) hx hb dX11_digest_24 rfl hl (by decide) rfl (fun ls hl => ?_)
  refine lv_iinc (v := 2) (lv' := [(3, .int 2), (1, .long 16337), (0, .ref (ad 0))]) hx hb dX11_digest_25 hl (k := 1) rfl (by decide) (by decide) rfl (fun ls hl => ?_)
  refine lv_goto (tgt := 6) hx hb dX11_digest_28 (by decide) ?_
  refine lv_iload_n hx hb dX11_digest_6 rfl (lv_at hl 0 rfl) ?_
  refine lv_bipush (v := 9) hx hb dX11_digest_7 (by decide) ?_
  refine lv_icmp_ge (tgt := 31) hx hb dX11_digest_9 (by decide) (fun c => absurd c (by decide)) (fun _ => ?_)
  refine lv_ldc2 (v := 31) hx hb hown (hts (.constantLong RX11 371 31) (by decide +kernel)) dX11_digest_12 ?_
  refine lv_lload_n hx hb dX11_digest_15 rfl (lv_at hl 1 rfl) ?_
  refine lv_lmul hx hb dX11_digest_16 ?_
  refine lq_l 506447 (by decide +kernel) ?_
  refine lv_aload_n hx hb dX11_digest_17 rfl (lv_at hl 2 rfl) ?_
  refine lv_iload_n hx hb dX11_digest_18 rfl (lv_at hl 0 rfl) ?_
  refine cr_i (va_runV (As := [.int 2]) (rest := [.long 506447]) ⟨hx, hb, hml, hown, hts⟩ (px_count l dC dI cs ad s.heap hP 2) (cwV 1 hts gX11_digest_X11_count rfl rfl rfl (by decide +kernel) ⟨Nat.le_of_ble_eq_true rfl, Nat.le_of_ble_eq_true rfl⟩) ⟨pb_c, va_recv hK hP (ci := 11) (q0 := 0) rfl rfl, pb_m hK⟩ rfl rfl hl.1 rfl (lv_room (Nat.le_of_ble_eq_true rfl)) dX11_digest_19 ⟨Nat.zero_le _, Nat.zero_le _⟩) hS (fun r_3 hw_3 locs hS => ?_)
  obtain rfl : r_3 = 0 := hw_3.trans (by decide +kernel)
  refine lv_i2l (v := 0) hx hb dX11_digest_22 (by decide) ?_
  refine lv_ladd hx hb dX11_digest_23 ?_
  refine lq_l 506447 (by decide +kernel) ?_
  refine lv_lstore_n (lv' := [(1, .long 506447), (3, .int 2), (0, .ref (ad 0))]) hx hb dX11_digest_24 rfl hl (by decide) rfl (fun ls hl => ?_)
  refine lv_iinc (v := 3) (lv' := [(3, .int 3), (1, .long 506447), (0, .ref (ad 0))]) hx hb dX11_digest_25 hl (k := 1) rfl (by decide) (by decide) rfl (fun ls hl => ?_)
  refine lv_goto (tgt := 6) hx hb dX11_digest_28 (by decide) ?_
  refine lv_iload_n hx hb dX11_digest_6 rfl (lv_at hl 0 rfl) ?_
  refine lv_bipush (v := 9) hx hb dX11_digest_7 (by decide) ?_
  refine lv_icmp_ge (tgt := 31) hx hb dX11_digest_9 (by decide) (fun c => absurd c (by decide)) (fun _ => ?_)
  refine lv_ldc2 (v := 31) hx hb hown (hts (.constantLong RX11 371 31) (by decide +kernel)) dX11_digest_12 ?_
  refine lv_lload_n hx hb dX11_digest_15 rfl (lv_at hl 1 rfl) ?_
  refine lv_lmul hx hb dX11_digest_16 ?_
  refine lq_l 15699857 (by decide +kernel) ?_
  refine lv_aload_n hx hb dX11_digest_17 rfl (lv_at hl 2 rfl) ?_
  refine lv_iload_n hx hb dX11_digest_18 rfl (lv_at hl 0 rfl) ?_
  refine cr_i (va_runV (As := [.int 3]) (rest := [.long 15699857]) ⟨hx, hb, hml, hown, hts⟩ (px_count l dC dI cs ad s.heap hP 3) (cwV 1 hts gX11_digest_X11_count rfl rfl rfl (by decide +kernel) ⟨Nat.le_of_ble_eq_true rfl, Nat.le_of_ble_eq_true rfl⟩) ⟨pb_c, va_recv hK hP (ci := 11) (q0 := 0) rfl rfl, pb_m hK⟩ rfl rfl hl.1 rfl (lv_room (Nat.le_of_ble_eq_true rfl)) dX11_digest_19 ⟨Nat.zero_le _, Nat.zero_le _⟩) hS (fun r_4 hw_4 locs hS => ?_)
  obtain rfl : r_4 = 0 := hw_4.trans (by decide +kernel)
  refine lv_i2l (v := 0) hx hb dX11_digest_22 (by decide) ?_
  refine lv_ladd hx hb dX11_digest_23 ?_
  refine lq_l 15699857 (by decide +kernel) ?_
  refine lv_lstore_n (lv' := [(1, .long 15699857), (3, .int 3), (0, .ref (ad 0))]) hx hb dX11_digest_24 rfl hl (by decide) rfl (fun ls hl => ?_)
  refine lv_iinc (v := 4) (lv' := [(3, .int 4), (1, .long 15699857), (0, .ref (ad 0))]) hx hb dX11_digest_25 hl (k := 1) rfl (by decide) (by decide) rfl (fun ls hl => ?_)
  refine lv_goto (tgt := 6) hx hb dX11_digest_28 (by decide) ?_
  refine lv_iload_n hx hb dX11_digest_6 rfl (lv_at hl 0 rfl) ?_
  refine lv_bipush (v := 9) hx hb dX11_digest_7 (by decide) ?_
  refine lv_icmp_ge (tgt := 31) hx hb dX11_digest_9 (by decide) (fun c => absurd c (by decide)) (fun _ => ?_)
  refine lv_ldc2 (v := 31) hx hb hown (hts (.constantLong RX11 371 31) (by decide +kernel)) dX11_digest_12 ?_
  refine lv_lload_n hx hb dX11_digest_15 rfl (lv_at hl 1 rfl) ?_
  refine lv_lmul hx hb dX11_digest_16 ?_
  refine lq_l 486695567 (by decide +kernel) ?_
  refine lv_aload_n hx hb dX11_digest_17 rfl (lv_at hl 2 rfl) ?_
  refine lv_iload_n hx hb dX11_digest_18 rfl (lv_at hl 0 rfl) ?_
  refine cr_i (va_runV (As := [.int 4]) (rest := [.long 486695567]) ⟨hx, hb, hml, hown, hts⟩ (px_count l dC dI cs ad s.heap hP 4) (cwV 1 hts gX11_digest_X11_count rfl rfl rfl (by decide +kernel) ⟨Nat.le_of_ble_eq_true rfl, Nat.le_of_ble_eq_true rfl⟩) ⟨pb_c, va_recv hK hP (ci := 11) (q0 := 0) rfl rfl, pb_m hK⟩ rfl rfl hl.1 rfl (lv_room (Nat.le_of_ble_eq_true rfl)) dX11_digest_19 ⟨Nat.zero_le _, Nat.zero_le _⟩) hS (fun r_5 hw_5 locs hS => ?_)
  obtain rfl : r_5 = 0 := hw_5.trans (by decide +kernel)
  refine lv_i2l (v := 0) hx hb dX11_digest_22 (by decide) ?_
  refine lv_ladd hx hb dX11_digest_23 ?_
  refine lq_l 486695567 (by decide +kernel) ?_
  refine lv_lstore_n (lv' := [(1, .long 486695567), (3, .int 4), (0, .ref (ad 0))]) hx hb dX11_digest_24 rfl hl (by decide) rfl (fun ls hl => ?_)
  refine lv_iinc (v := 5) (lv' := [(3, .int 5), (1, .long 486695567), (0, .ref (ad 0))]) hx hb dX11_digest_25 hl (k := 1) rfl (by decide) (by decide) rfl (fun ls hl => ?_)
  refine lv_goto (tgt := 6) hx hb dX11_digest_28 (by decide) ?_
  refine lv_iload_n hx hb dX11_digest_6 rfl (lv_at hl 0 rfl) ?_
  refine lv_bipush (v := 9) hx hb dX11_digest_7 (by decide) ?_
  refine lv_icmp_ge (tgt := 31) hx hb dX11_digest_9 (by decide) (fun c => absurd c (by decide)) (fun _ => ?_)
  refine lv_ldc2 (v := 31) hx hb hown (hts (.constantLong RX11 371 31) (by decide +kernel)) dX11_digest_12 ?_
  refine lv_lload_n hx hb dX11_digest_15 rfl (lv_at hl 1 rfl) ?_
  refine lv_lmul hx hb dX11_digest_16 ?_
  refine lq_l 15087562577 (by decide +kernel) ?_
  refine lv_aload_n hx hb dX11_digest_17 rfl (lv_at hl 2 rfl) ?_
  refine lv_iload_n hx hb dX11_digest_18 rfl (lv_at hl 0 rfl) ?_
  refine cr_i (va_runV (As := [.int 5]) (rest := [.long 15087562577]) ⟨hx, hb, hml, hown, hts⟩ (px_count l dC dI cs ad s.heap hP 5) (cwV 1 hts gX11_digest_X11_count rfl rfl rfl (by decide +kernel) ⟨Nat.le_of_ble_eq_true rfl, Nat.le_of_ble_eq_true rfl⟩) ⟨pb_c, va_recv hK hP (ci := 11) (q0 := 0) rfl rfl, pb_m hK⟩ rfl rfl hl.1 rfl (lv_room (Nat.le_of_ble_eq_true rfl)) dX11_digest_19 ⟨Nat.zero_le _, Nat.zero_le _⟩) hS (fun r_6 hw_6 locs hS => ?_)
  obtain rfl : r_6 = 0 := hw_6.trans (by decide +kernel)
  refine lv_i2l (v := 0) hx hb dX11_digest_22 (by decide) ?_
  refine lv_ladd hx hb dX11_digest_23 ?_
  refine lq_l 15087562577 (by decide +kernel) ?_
  refine lv_lstore_n (lv' := [(1, .long 15087562577), (3, .int 5), (0, .ref (ad 0))]) hx hb dX11_digest_24 rfl hl (by decide) rfl (fun ls hl => ?_)
  refine lv_iinc (v := 6) (lv' := [(3, .int 6), (1, .long 15087562577), (0, .ref (ad 0))]) hx hb dX11_digest_25 hl (k := 1) rfl (by decide) (by decide) rfl (fun ls hl => ?_)
  refine lv_goto (tgt := 6) hx hb dX11_digest_28 (by decide) ?_
  refine lv_iload_n hx hb dX11_digest_6 rfl (lv_at hl 0 rfl) ?_
  refine lv_bipush (v := 9) hx hb dX11_digest_7 (by decide) ?_
  refine lv_icmp_ge (tgt := 31) hx hb dX11_digest_9 (by decide) (fun c => absurd c (by decide)) (fun _ => ?_)
  refine lv_ldc2 (v := 31) hx hb hown (hts (.constantLong RX11 371 31) (by decide +kernel)) dX11_digest_12 ?_
  refine lv_lload_n hx hb dX11_digest_15 rfl (lv_at hl 1 rfl) ?_
  refine lv_lmul hx hb dX11_digest_16 ?_
  refine lq_l 467714439887 (by decide +kernel) ?_
  refine lv_aload_n hx hb dX11_digest_17 rfl (lv_at hl 2 rfl) ?_
  refine lv_iload_n hx hb dX11_digest_18 rfl (lv_at hl 0 rfl) ?_
  refine cr_i (va_runV (As := [.int 6]) (rest := [.long 467714439887]) ⟨hx, hb, hml, hown, hts⟩ (px_count l dC dI cs ad s.heap hP 6) (cwV 1 hts gX11_digest_X11_count rfl rfl rfl (by decide +kernel) ⟨Nat.le_of_ble_eq_true rfl, Nat.le_of_ble_eq_true rfl⟩) ⟨pb_c, va_recv hK hP (ci := 11) (q0 := 0) rfl rfl, pb_m hK⟩ rfl rfl hl.1 rfl (lv_room (Nat.le_of_ble_eq_true rfl)) dX11_digest_19 ⟨Nat.zero_le _, Nat.zero_le _⟩) hS (fun r_7 hw_7 locs hS => ?_)
  obtain rfl : r_7 = 0 := hw_7.trans (by decide +kernel)
  refine lv_i2l (v := 0) hx hb dX11_digest_22 (by decide) ?_
  refine lv_ladd hx hb dX11_digest_23 ?_
  refine lq_l 467714439887 (by decide +kernel) ?_
  refine lv_lstore_n (lv' := [(1, .long 467714439887), (3, .int 6), (0, .ref (ad 0))]) hx hb dX11_digest_24 rfl hl (by decide) rfl (fun ls hl => ?_)
  refine lv_iinc (v := 7) (lv' := [(3, .int 7), (1, .long 467714439887), (0, .ref (ad 0))]) hx hb dX11_digest_25 hl (k := 1) rfl (by decide) (by decide) rfl (fun ls hl => ?_)
  refine lv_goto (tgt := 6) hx hb dX11_digest_28 (by decide) ?_
  refine lv_iload_n hx hb dX11_digest_6 rfl (lv_at hl 0 rfl) ?_
  refine lv_bipush (v := 9) hx hb dX11_digest_7 (by decide) ?_
  refine lv_icmp_ge (tgt := 31) hx hb dX11_digest_9 (by decide) (fun c => absurd c (by decide)) (fun _ => ?_)
  refine lv_ldc2 (v := 31) hx hb hown (hts (.constantLong RX11 371 31) (by decide +kernel)) dX11_digest_12 ?_
  refine lv_lload_n hx hb dX11_digest_15 rfl (lv_at hl 1 rfl) ?_
  refine lv_lmul hx hb dX11_digest_16 ?_
  refine lq_l 14499147636497 (by decide +kernel) ?_
  refine lv_aload_n hx hb dX11_digest_17 rfl (lv_at hl 2 rfl) ?_
  refine lv_iload_n hx hb dX11_digest_18 rfl (lv_at hl 0 rfl) ?_
  refine cr_i (va_runV (As := [.int 7]) (rest := [.long 14499147636497]) ⟨hx, hb, hml, hown, hts⟩ (px_count l dC dI cs ad s.heap hP 7) (cwV 1 hts gX11_digest_X11_count rfl rfl rfl (by decide +kernel) ⟨Nat.le_of_ble_eq_true rfl, Nat.le_of_ble_eq_true rfl⟩) ⟨pb_c, va_recv hK hP (ci := 11) (q0 := 0) rfl rfl, pb_m hK⟩ rfl rfl hl.1 rfl (lv_room (Nat.le_of_ble_eq_true rfl)) dX11_digest_19 ⟨Nat.zero_le _, Nat.zero_le _⟩) hS (fun r_8 hw_8 locs hS => ?_)
  obtain rfl : r_8 = 0 := hw_8.trans (by decide +kernel)
  refine lv_i2l (v := 0) hx hb dX11_digest_22 (by decide) ?_
  refine lv_ladd hx hb dX11_digest_23 ?_
  refine lq_l 14499147636497 (by decide +kernel) ?_
  refine lv_lstore_n (lv' := [(1, .long 14499147636497), (3, .int 7), (0, .ref (ad 0))]) hx hb dX11_digest_24 rfl hl (by decide) rfl (fun ls hl => ?_)
  refine lv_iinc (v := 8) (lv' := [(3, .int 8), (1, .long 14499147636497), (0, .ref (ad 0))]) hx hb dX11_digest_25 hl (k := 1) rfl (by decide) (by decide) rfl (fun ls hl => ?_)
  refine lv_goto (tgt := 6) hx hb dX11_digest_28 (by decide) ?_
  refine lv_iload_n hx hb dX11_digest_6 rfl (lv_at hl 0 rfl) ?_
  refine lv_bipush (v := 9) hx hb dX11_digest_7 (by decide) ?_
  refine lv_icmp_ge (tgt := 31) hx hb dX11_digest_9 (by decide) (fun c => absurd c (by decide)) (fun _ => ?_)
  refine lv_ldc2 (v := 31) hx hb hown (hts (.constantLong RX11 371 31) (by decide +kernel)) dX11_digest_12 ?_
  refine lv_lload_n hx hb dX11_digest_15 rfl (lv_at hl 1 rfl) ?_
  refine lv_lmul hx hb dX11_digest_16 ?_
  refine lq_l 449473576731407 (by decide +kernel) ?_
  refine lv_aload_n hx hb dX11_digest_17 rfl (lv_at hl 2 rfl) ?_
  refine lv_iload_n hx hb dX11_digest_18 rfl (lv_at hl 0 rfl) ?_
  refine cr_i (va_runV (As := [.int 8]) (rest := [.long 449473576731407]) ⟨hx, hb, hml, hown, hts⟩ (px_count l dC dI cs ad s.heap hP 8) (cwV 1 hts gX11_digest_X11_count rfl rfl rfl (by decide +kernel) ⟨Nat.le_of_ble_eq_true rfl, Nat.le_of_ble_eq_true rfl⟩) ⟨pb_c, va_recv hK hP (ci := 11) (q0 := 0) rfl rfl, pb_m hK⟩ rfl rfl hl.1 rfl (lv_room (Nat.le_of_ble_eq_true rfl)) dX11_digest_19 ⟨Nat.zero_le _, Nat.zero_le _⟩) hS (fun r_9 hw_9 locs hS => ?_)
  obtain rfl : r_9 = 0 := hw_9.trans (by decide +kernel)
  refine lv_i2l (v := 0) hx hb dX11_digest_22 (by decide) ?_
  refine lv_ladd hx hb dX11_digest_23 ?_
  refine lq_l 449473576731407 (by decide +kernel) ?_
  refine lv_lstore_n (lv' := [(1, .long 449473576731407), (3, .int 8), (0, .ref (ad 0))]) hx hb dX11_digest_24 rfl hl (by decide) rfl (fun ls hl => ?_)
  refine lv_iinc (v := 9) (lv' := [(3, .int 9), (1, .long 449473576731407), (0, .ref (ad 0))]) hx hb dX11_digest_25 hl (k := 1) rfl (by decide) (by decide) rfl (fun ls hl => ?_)
  refine lv_goto (tgt := 6) hx hb dX11_digest_28 (by decide) ?_
  refine lv_iload_n hx hb dX11_digest_6 rfl (lv_at hl 0 rfl) ?_
  refine lv_bipush (v := 9) hx hb dX11_digest_7 (by decide) ?_
  refine lv_icmp_ge (tgt := 31) hx hb dX11_digest_9 (by decide) (fun _ => ?_) (fun c => absurd (by decide) c)
  refine lv_aload_n hx hb dX11_digest_31 rfl (lv_at hl 2 rfl) ?_
  refine va_get (D := (dC, dI)) (ci := 11) (v := .ref (ad 4)) (C := RX11) (T := TX11) (N := 11) hx hb hts (by decide +kernel) hown hK hP 0 rfl rfl 3 (by decide) (hts (.fieldLink RX11 30 "DearLetters" "town" "LDearLetters$Town;") (by decide +kernel)) (fun _ h9 => h9) rfl dX11_digest_32 ?_
  refine lv_lload_n hx hb dX11_digest_35 rfl (lv_at hl 1 rfl) ?_
  refine cr_l (va_runV (As := [.long 449473576731407]) (rest := []) ⟨hx, hb, hml, hown, hts⟩ (cx_townDigest l dC dI cs ad s.heap hP 449473576731407) (cwV 1 hts gX11_digest_X10_digestOn rfl rfl rfl (by decide +kernel) ⟨Nat.le_of_ble_eq_true rfl, Nat.le_of_ble_eq_true rfl⟩) ⟨pb_c, va_recv hK hP (ci := 10) (q0 := 4) rfl rfl, pb_m hK⟩ rfl rfl hl.1 rfl (lv_room (Nat.le_of_ble_eq_true rfl)) dX11_digest_36 ⟨Nat.zero_le _, Nat.zero_le _⟩) hS (fun r_10 hw_10 locs hS => ?_)
  obtain rfl : r_10 = 449473576731407 := hw_10
  refine lv_lstore_n (lv' := [(1, .long 449473576731407), (3, .int 9), (0, .ref (ad 0))]) hx hb dX11_digest_39 rfl hl (by decide) rfl (fun ls hl => ?_)
  refine lv_iconst (v := 0) hx hb dX11_digest_40 (by decide) ?_
  refine lv_istore_n (lv' := [(3, .int 0), (1, .long 449473576731407), (0, .ref (ad 0))]) hx hb dX11_digest_41 rfl hl (by decide) rfl (fun ls hl => ?_)
  refine lv_iload_n hx hb dX11_digest_42 rfl (lv_at hl 0 rfl) ?_
  refine lv_iconst (v := 3) hx hb dX11_digest_43 (by decide) ?_
  refine lv_icmp_ge (tgt := 86) hx hb dX11_digest_44 (by decide) (fun c => absurd c (by decide)) (fun _ => ?_)
  refine lv_ldc2 (v := 31) hx hb hown (hts (.constantLong RX11 371 31) (by decide +kernel)) dX11_digest_47 ?_
  refine lv_lload_n hx hb dX11_digest_50 rfl (lv_at hl 1 rfl) ?_
  refine lv_lmul hx hb dX11_digest_51 ?_
  refine lq_l 13933680878673617 (by decide +kernel) ?_
  refine lv_aload_n hx hb dX11_digest_52 rfl (lv_at hl 2 rfl) ?_
  refine va_get (D := (dC, dI)) (ci := 11) (v := .ref (ad 3)) (C := RX11) (T := TX11) (N := 11) hx hb hts (by decide +kernel) hown hK hP 0 rfl rfl 2 (by decide) (hts (.fieldLink RX11 23 "DearLetters" "kept" "[LDearLetters$Standing;") (by decide +kernel)) (fun _ h9 => h9) rfl dX11_digest_53 ?_
  refine lv_iload_n hx hb dX11_digest_56 rfl (lv_at hl 0 rfl) ?_
  refine va_aldq hx hb hK hP 3 2 rfl rfl (show vp_in 0 3 by unfold vp_in; decide) dX11_digest_57 ?_
  refine lq_v (.ref (ad 18)) rfl ?_
  refine va_get (D := (dC, dI)) (ci := 8) (v := .int 0) (C := RX8) (T := TX8) (N := 6) hx hb hts (by decide +kernel) hown hK hP 18 rfl rfl 5 (by decide) (hts (.fieldLink RX11 135 "DearLetters$Standing" "there" "Z") (by decide +kernel)) (fun _ h9 => h9) rfl dX11_digest_58 ?_
  refine lv_if_eq (tgt := 76) hx hb dX11_digest_61 (by decide) (fun _ => ?_) (fun c => absurd (by decide) c)
  refine lv_iconst (v := (-1)) hx hb dX11_digest_76 (by decide) ?_
  refine lv_i2l (v := (-1)) hx hb dX11_digest_77 (by decide) ?_
  refine lv_ladd hx hb dX11_digest_78 ?_
  refine lq_l 13933680878673616 (by decide +kernel) ?_
  refine lv_lstore_n (lv' := [(1, .long 13933680878673616), (3, .int 0), (0, .ref (ad 0))]) hx hb dX11_digest_79 rfl hl (by decide) rfl (fun ls hl => ?_)
  refine lv_iinc (v := 1) (lv' := [(3, .int 1), (1, .long 13933680878673616), (0, .ref (ad 0))]) hx hb dX11_digest_80 hl (k := 1) rfl (by decide) (by decide) rfl (fun ls hl => ?_)
  refine lv_goto (tgt := 42) hx hb dX11_digest_83 (by decide) ?_
  refine lv_iload_n hx hb dX11_digest_42 rfl (lv_at hl 0 rfl) ?_
  refine lv_iconst (v := 3) hx hb dX11_digest_43 (by decide) ?_
  refine lv_icmp_ge (tgt := 86) hx hb dX11_digest_44 (by decide) (fun c => absurd c (by decide)) (fun _ => ?_)
  refine lv_ldc2 (v := 31) hx hb hown (hts (.constantLong RX11 371 31) (by decide +kernel)) dX11_digest_47 ?_
  refine lv_lload_n hx hb dX11_digest_50 rfl (lv_at hl 1 rfl) ?_
  refine lv_lmul hx hb dX11_digest_51 ?_
  refine lq_l 431944107238882096 (by decide +kernel) ?_
  refine lv_aload_n hx hb dX11_digest_52 rfl (lv_at hl 2 rfl) ?_
  refine va_get (D := (dC, dI)) (ci := 11) (v := .ref (ad 3)) (C := RX11) (T := TX11) (N := 11) hx hb hts (by decide +kernel) hown hK hP 0 rfl rfl 2 (by decide) (hts (.fieldLink RX11 23 "DearLetters" "kept" "[LDearLetters$Standing;") (by decide +kernel)) (fun _ h9 => h9) rfl dX11_digest_53 ?_
  refine lv_iload_n hx hb dX11_digest_56 rfl (lv_at hl 0 rfl) ?_
  refine va_aldq hx hb hK hP 3 2 rfl rfl (show vp_in 1 3 by unfold vp_in; decide) dX11_digest_57 ?_
  refine lq_v (.ref (ad 19)) rfl ?_
  refine va_get (D := (dC, dI)) (ci := 8) (v := .int 0) (C := RX8) (T := TX8) (N := 6) hx hb hts (by decide +kernel) hown hK hP 19 rfl rfl 5 (by decide) (hts (.fieldLink RX11 135 "DearLetters$Standing" "there" "Z") (by decide +kernel)) (fun _ h9 => h9) rfl dX11_digest_58 ?_
  refine lv_if_eq (tgt := 76) hx hb dX11_digest_61 (by decide) (fun _ => ?_) (fun c => absurd (by decide) c)
  refine lv_iconst (v := (-1)) hx hb dX11_digest_76 (by decide) ?_
  refine lv_i2l (v := (-1)) hx hb dX11_digest_77 (by decide) ?_
  refine lv_ladd hx hb dX11_digest_78 ?_
  refine lq_l 431944107238882095 (by decide +kernel) ?_
  refine lv_lstore_n (lv' := [(1, .long 431944107238882095), (3, .int 1), (0, .ref (ad 0))]) hx hb dX11_digest_79 rfl hl (by decide) rfl (fun ls hl => ?_)
  refine lv_iinc (v := 2) (lv' := [(3, .int 2), (1, .long 431944107238882095), (0, .ref (ad 0))]) hx hb dX11_digest_80 hl (k := 1) rfl (by decide) (by decide) rfl (fun ls hl => ?_)
  refine lv_goto (tgt := 42) hx hb dX11_digest_83 (by decide) ?_
  refine lv_iload_n hx hb dX11_digest_42 rfl (lv_at hl 0 rfl) ?_
  refine lv_iconst (v := 3) hx hb dX11_digest_43 (by decide) ?_
  refine lv_icmp_ge (tgt := 86) hx hb dX11_digest_44 (by decide) (fun c => absurd c (by decide)) (fun _ => ?_)
  refine lv_ldc2 (v := 31) hx hb hown (hts (.constantLong RX11 371 31) (by decide +kernel)) dX11_digest_47 ?_
  refine lv_lload_n hx hb dX11_digest_50 rfl (lv_at hl 1 rfl) ?_
  refine lv_lmul hx hb dX11_digest_51 ?_
  refine lq_l (-5056476749304206671) (by decide +kernel) ?_
  refine lv_aload_n hx hb dX11_digest_52 rfl (lv_at hl 2 rfl) ?_
  refine va_get (D := (dC, dI)) (ci := 11) (v := .ref (ad 3)) (C := RX11) (T := TX11) (N := 11) hx hb hts (by decide +kernel) hown hK hP 0 rfl rfl 2 (by decide) (hts (.fieldLink RX11 23 "DearLetters" "kept" "[LDearLetters$Standing;") (by decide +kernel)) (fun _ h9 => h9) rfl dX11_digest_53 ?_
  refine lv_iload_n hx hb dX11_digest_56 rfl (lv_at hl 0 rfl) ?_
  refine va_aldq hx hb hK hP 3 2 rfl rfl (show vp_in 2 3 by unfold vp_in; decide) dX11_digest_57 ?_
  refine lq_v (.ref (ad 20)) rfl ?_
  refine va_get (D := (dC, dI)) (ci := 8) (v := .int 0) (C := RX8) (T := TX8) (N := 6) hx hb hts (by decide +kernel) hown hK hP 20 rfl rfl 5 (by decide) (hts (.fieldLink RX11 135 "DearLetters$Standing" "there" "Z") (by decide +kernel)) (fun _ h9 => h9) rfl dX11_digest_58 ?_
  refine lv_if_eq (tgt := 76) hx hb dX11_digest_61 (by decide) (fun _ => ?_) (fun c => absurd (by decide) c)
  refine lv_iconst (v := (-1)) hx hb dX11_digest_76 (by decide) ?_
  refine lv_i2l (v := (-1)) hx hb dX11_digest_77 (by decide) ?_
  refine lv_ladd hx hb dX11_digest_78 ?_
  refine lq_l (-5056476749304206672) (by decide +kernel) ?_
  refine lv_lstore_n (lv' := [(1, .long (-5056476749304206672)), (3, .int 2), (0, .ref (ad 0))]) hx hb dX11_digest_79 rfl hl (by decide) rfl (fun ls hl => ?_)
  refine lv_iinc (v := 3) (lv' := [(3, .int 3), (1, .long (-5056476749304206672)), (0, .ref (ad 0))]) hx hb dX11_digest_80 hl (k := 1) rfl (by decide) (by decide) rfl (fun ls hl => ?_)
  refine lv_goto (tgt := 42) hx hb dX11_digest_83 (by decide) ?_
  refine lv_iload_n hx hb dX11_digest_42 rfl (lv_at hl 0 rfl) ?_
  refine lv_iconst (v := 3) hx hb dX11_digest_43 (by decide) ?_
  refine lv_icmp_ge (tgt := 86) hx hb dX11_digest_44 (by decide) (fun _ => ?_) (fun c => absurd (by decide) c)
  refine lv_iconst (v := 0) hx hb dX11_digest_86 (by decide) ?_
  refine lv_istore_n (lv' := [(3, .int 0), (1, .long (-5056476749304206672)), (0, .ref (ad 0))]) hx hb dX11_digest_87 rfl hl (by decide) rfl (fun ls hl => ?_)
  refine lv_iload_n hx hb dX11_digest_88 rfl (lv_at hl 0 rfl) ?_
  refine lv_bipush (v := 6) hx hb dX11_digest_89 (by decide) ?_
  refine lv_icmp_ge (tgt := 111) hx hb dX11_digest_91 (by decide) (fun c => absurd c (by decide)) (fun _ => ?_)
  refine lv_aload_n hx hb dX11_digest_94 rfl (lv_at hl 2 rfl) ?_
  refine va_get (D := (dC, dI)) (ci := 11) (v := .ref (ad 1)) (C := RX11) (T := TX11) (N := 11) hx hb hts (by decide +kernel) hown hK hP 0 rfl rfl 0 (by decide) (hts (.fieldLink RX11 11 "DearLetters" "rows" "[LDearLetters$Row;") (by decide +kernel)) (fun _ h9 => h9) rfl dX11_digest_95 ?_
  refine lv_iload_n hx hb dX11_digest_98 rfl (lv_at hl 0 rfl) ?_
  refine va_aldq hx hb hK hP 1 0 rfl rfl (show vp_in 0 6 by unfold vp_in; decide) dX11_digest_99 ?_
  refine lq_v (.ref (ad 8)) rfl ?_
  refine lv_lload_n hx hb dX11_digest_100 rfl (lv_at hl 1 rfl) ?_
  refine cr_l (va_runV (As := [.long (-5056476749304206672)]) (rest := []) ⟨hx, hb, hml, hown, hts⟩ (cx_Row_digestOn l dC dI (wX cs ad) (tyX cs) s.heap hP 8 (ad 8) (ad 21) rfl (-5056476749304206672)) (cwV 1 hts gX11_digest_X6_digestOn rfl rfl rfl (by decide +kernel) ⟨Nat.le_of_ble_eq_true rfl, Nat.le_of_ble_eq_true rfl⟩) ⟨pb_c, va_recv hK hP (ci := 6) (q0 := 8) rfl rfl, pb_m hK⟩ rfl rfl hl.1 rfl (lv_room (Nat.le_of_ble_eq_true rfl)) dX11_digest_101 ⟨Nat.zero_le _, Nat.zero_le _⟩) hS (fun r_11 hw_11 locs hS => ?_)
  obtain rfl : r_11 = (-9176826638753993905) := hw_11.trans (by decide +kernel)
  refine lv_lstore_n (lv' := [(1, .long (-9176826638753993905)), (3, .int 0), (0, .ref (ad 0))]) hx hb dX11_digest_104 rfl hl (by decide) rfl (fun ls hl => ?_)
  refine lv_iinc (v := 1) (lv' := [(3, .int 1), (1, .long (-9176826638753993905)), (0, .ref (ad 0))]) hx hb dX11_digest_105 hl (k := 1) rfl (by decide) (by decide) rfl (fun ls hl => ?_)
  refine lv_goto (tgt := 88) hx hb dX11_digest_108 (by decide) ?_
  refine lv_iload_n hx hb dX11_digest_88 rfl (lv_at hl 0 rfl) ?_
  refine lv_bipush (v := 6) hx hb dX11_digest_89 (by decide) ?_
  refine lv_icmp_ge (tgt := 111) hx hb dX11_digest_91 (by decide) (fun c => absurd c (by decide)) (fun _ => ?_)
  refine lv_aload_n hx hb dX11_digest_94 rfl (lv_at hl 2 rfl) ?_
  refine va_get (D := (dC, dI)) (ci := 11) (v := .ref (ad 1)) (C := RX11) (T := TX11) (N := 11) hx hb hts (by decide +kernel) hown hK hP 0 rfl rfl 0 (by decide) (hts (.fieldLink RX11 11 "DearLetters" "rows" "[LDearLetters$Row;") (by decide +kernel)) (fun _ h9 => h9) rfl dX11_digest_95 ?_
  refine lv_iload_n hx hb dX11_digest_98 rfl (lv_at hl 0 rfl) ?_
  refine va_aldq hx hb hK hP 1 0 rfl rfl (show vp_in 1 6 by unfold vp_in; decide) dX11_digest_99 ?_
  refine lq_v (.ref (ad 9)) rfl ?_
  refine lv_lload_n hx hb dX11_digest_100 rfl (lv_at hl 1 rfl) ?_
  refine cr_l (va_runV (As := [.long (-9176826638753993905)]) (rest := []) ⟨hx, hb, hml, hown, hts⟩ (cx_Row_digestOn l dC dI (wX cs ad) (tyX cs) s.heap hP 9 (ad 9) (ad 22) rfl (-9176826638753993905)) (cwV 1 hts gX11_digest_X6_digestOn rfl rfl rfl (by decide +kernel) ⟨Nat.le_of_ble_eq_true rfl, Nat.le_of_ble_eq_true rfl⟩) ⟨pb_c, va_recv hK hP (ci := 6) (q0 := 9) rfl rfl, pb_m hK⟩ rfl rfl hl.1 rfl (lv_room (Nat.le_of_ble_eq_true rfl)) dX11_digest_101 ⟨Nat.zero_le _, Nat.zero_le _⟩) hS (fun r_12 hw_12 locs hS => ?_)
  obtain rfl : r_12 = (-7780464695730536816) := hw_12.trans (by decide +kernel)
  refine lv_lstore_n (lv' := [(1, .long (-7780464695730536816)), (3, .int 1), (0, .ref (ad 0))]) hx hb dX11_digest_104 rfl hl (by decide) rfl (fun ls hl => ?_)
  refine lv_iinc (v := 2) (lv' := [(3, .int 2), (1, .long (-7780464695730536816)), (0, .ref (ad 0))]) hx hb dX11_digest_105 hl (k := 1) rfl (by decide) (by decide) rfl (fun ls hl => ?_)
  refine lv_goto (tgt := 88) hx hb dX11_digest_108 (by decide) ?_
  refine lv_iload_n hx hb dX11_digest_88 rfl (lv_at hl 0 rfl) ?_
  refine lv_bipush (v := 6) hx hb dX11_digest_89 (by decide) ?_
  refine lv_icmp_ge (tgt := 111) hx hb dX11_digest_91 (by decide) (fun c => absurd c (by decide)) (fun _ => ?_)
  refine lv_aload_n hx hb dX11_digest_94 rfl (lv_at hl 2 rfl) ?_
  refine va_get (D := (dC, dI)) (ci := 11) (v := .ref (ad 1)) (C := RX11) (T := TX11) (N := 11) hx hb hts (by decide +kernel) hown hK hP 0 rfl rfl 0 (by decide) (hts (.fieldLink RX11 11 "DearLetters" "rows" "[LDearLetters$Row;") (by decide +kernel)) (fun _ h9 => h9) rfl dX11_digest_95 ?_
  refine lv_iload_n hx hb dX11_digest_98 rfl (lv_at hl 0 rfl) ?_
  refine va_aldq hx hb hK hP 1 0 rfl rfl (show vp_in 2 6 by unfold vp_in; decide) dX11_digest_99 ?_
  refine lq_v (.ref (ad 10)) rfl ?_
  refine lv_lload_n hx hb dX11_digest_100 rfl (lv_at hl 1 rfl) ?_
  refine cr_l (va_runV (As := [.long (-7780464695730536816)]) (rest := []) ⟨hx, hb, hml, hown, hts⟩ (cx_Row_digestOn l dC dI (wX cs ad) (tyX cs) s.heap hP 10 (ad 10) (ad 23) rfl (-7780464695730536816)) (cwV 1 hts gX11_digest_X6_digestOn rfl rfl rfl (by decide +kernel) ⟨Nat.le_of_ble_eq_true rfl, Nat.le_of_ble_eq_true rfl⟩) ⟨pb_c, va_recv hK hP (ci := 6) (q0 := 10) rfl rfl, pb_m hK⟩ rfl rfl hl.1 rfl (lv_room (Nat.le_of_ble_eq_true rfl)) dX11_digest_101 ⟨Nat.zero_le _, Nat.zero_le _⟩) hS (fun r_13 hw_13 locs hS => ?_)
  obtain rfl : r_13 = (-1386732609422470289) := hw_13.trans (by decide +kernel)
  refine lv_lstore_n (lv' := [(1, .long (-1386732609422470289)), (3, .int 2), (0, .ref (ad 0))]) hx hb dX11_digest_104 rfl hl (by decide) rfl (fun ls hl => ?_)
  refine lv_iinc (v := 3) (lv' := [(3, .int 3), (1, .long (-1386732609422470289)), (0, .ref (ad 0))]) hx hb dX11_digest_105 hl (k := 1) rfl (by decide) (by decide) rfl (fun ls hl => ?_)
  refine lv_goto (tgt := 88) hx hb dX11_digest_108 (by decide) ?_
  refine lv_iload_n hx hb dX11_digest_88 rfl (lv_at hl 0 rfl) ?_
  refine lv_bipush (v := 6) hx hb dX11_digest_89 (by decide) ?_
  refine lv_icmp_ge (tgt := 111) hx hb dX11_digest_91 (by decide) (fun c => absurd c (by decide)) (fun _ => ?_)
  refine lv_aload_n hx hb dX11_digest_94 rfl (lv_at hl 2 rfl) ?_
  refine va_get (D := (dC, dI)) (ci := 11) (v := .ref (ad 1)) (C := RX11) (T := TX11) (N := 11) hx hb hts (by decide +kernel) hown hK hP 0 rfl rfl 0 (by decide) (hts (.fieldLink RX11 11 "DearLetters" "rows" "[LDearLetters$Row;") (by decide +kernel)) (fun _ h9 => h9) rfl dX11_digest_95 ?_
  refine lv_iload_n hx hb dX11_digest_98 rfl (lv_at hl 0 rfl) ?_
  refine va_aldq hx hb hK hP 1 0 rfl rfl (show vp_in 3 6 by unfold vp_in; decide) dX11_digest_99 ?_
  refine lq_v (.ref (ad 11)) rfl ?_
  refine lv_lload_n hx hb dX11_digest_100 rfl (lv_at hl 1 rfl) ?_
  refine cr_l (va_runV (As := [.long (-1386732609422470289)]) (rest := []) ⟨hx, hb, hml, hown, hts⟩ (cx_Row_digestOn l dC dI (wX cs ad) (tyX cs) s.heap hP 11 (ad 11) (ad 24) rfl (-1386732609422470289)) (cwV 1 hts gX11_digest_X6_digestOn rfl rfl rfl (by decide +kernel) ⟨Nat.le_of_ble_eq_true rfl, Nat.le_of_ble_eq_true rfl⟩) ⟨pb_c, va_recv hK hP (ci := 6) (q0 := 11) rfl rfl, pb_m hK⟩ rfl rfl hl.1 rfl (lv_room (Nat.le_of_ble_eq_true rfl)) dX11_digest_101 ⟨Nat.zero_le _, Nat.zero_le _⟩) hS (fun r_14 hw_14 locs hS => ?_)
  obtain rfl : r_14 = (-6095222744677475728) := hw_14.trans (by decide +kernel)
  refine lv_lstore_n (lv' := [(1, .long (-6095222744677475728)), (3, .int 3), (0, .ref (ad 0))]) hx hb dX11_digest_104 rfl hl (by decide) rfl (fun ls hl => ?_)
  refine lv_iinc (v := 4) (lv' := [(3, .int 4), (1, .long (-6095222744677475728)), (0, .ref (ad 0))]) hx hb dX11_digest_105 hl (k := 1) rfl (by decide) (by decide) rfl (fun ls hl => ?_)
  refine lv_goto (tgt := 88) hx hb dX11_digest_108 (by decide) ?_
  refine lv_iload_n hx hb dX11_digest_88 rfl (lv_at hl 0 rfl) ?_
  refine lv_bipush (v := 6) hx hb dX11_digest_89 (by decide) ?_
  refine lv_icmp_ge (tgt := 111) hx hb dX11_digest_91 (by decide) (fun c => absurd c (by decide)) (fun _ => ?_)
  refine lv_aload_n hx hb dX11_digest_94 rfl (lv_at hl 2 rfl) ?_
  refine va_get (D := (dC, dI)) (ci := 11) (v := .ref (ad 1)) (C := RX11) (T := TX11) (N := 11) hx hb hts (by decide +kernel) hown hK hP 0 rfl rfl 0 (by decide) (hts (.fieldLink RX11 11 "DearLetters" "rows" "[LDearLetters$Row;") (by decide +kernel)) (fun _ h9 => h9) rfl dX11_digest_95 ?_
  refine lv_iload_n hx hb dX11_digest_98 rfl (lv_at hl 0 rfl) ?_
  refine va_aldq hx hb hK hP 1 0 rfl rfl (show vp_in 4 6 by unfold vp_in; decide) dX11_digest_99 ?_
  refine lq_v (.ref (ad 12)) rfl ?_
  refine lv_lload_n hx hb dX11_digest_100 rfl (lv_at hl 1 rfl) ?_
  refine cr_l (va_runV (As := [.long (-6095222744677475728)]) (rest := []) ⟨hx, hb, hml, hown, hts⟩ (cx_Row_digestOn l dC dI (wX cs ad) (tyX cs) s.heap hP 12 (ad 12) (ad 25) rfl (-6095222744677475728)) (cwV 1 hts gX11_digest_X6_digestOn rfl rfl rfl (by decide +kernel) ⟨Nat.le_of_ble_eq_true rfl, Nat.le_of_ble_eq_true rfl⟩) ⟨pb_c, va_recv hK hP (ci := 6) (q0 := 12) rfl rfl, pb_m hK⟩ rfl rfl hl.1 rfl (lv_room (Nat.le_of_ble_eq_true rfl)) dX11_digest_101 ⟨Nat.zero_le _, Nat.zero_le _⟩) hS (fun r_15 hw_15 locs hS => ?_)
  obtain rfl : r_15 = (-4484464347906231409) := hw_15.trans (by decide +kernel)
  refine lv_lstore_n (lv' := [(1, .long (-4484464347906231409)), (3, .int 4), (0, .ref (ad 0))]) hx hb dX11_digest_104 rfl hl (by decide) rfl (fun ls hl => ?_)
  refine lv_iinc (v := 5) (lv' := [(3, .int 5), (1, .long (-4484464347906231409)), (0, .ref (ad 0))]) hx hb dX11_digest_105 hl (k := 1) rfl (by decide) (by decide) rfl (fun ls hl => ?_)
  refine lv_goto (tgt := 88) hx hb dX11_digest_108 (by decide) ?_
  refine lv_iload_n hx hb dX11_digest_88 rfl (lv_at hl 0 rfl) ?_
  refine lv_bipush (v := 6) hx hb dX11_digest_89 (by decide) ?_
  refine lv_icmp_ge (tgt := 111) hx hb dX11_digest_91 (by decide) (fun c => absurd c (by decide)) (fun _ => ?_)
  refine lv_aload_n hx hb dX11_digest_94 rfl (lv_at hl 2 rfl) ?_
  refine va_get (D := (dC, dI)) (ci := 11) (v := .ref (ad 1)) (C := RX11) (T := TX11) (N := 11) hx hb hts (by decide +kernel) hown hK hP 0 rfl rfl 0 (by decide) (hts (.fieldLink RX11 11 "DearLetters" "rows" "[LDearLetters$Row;") (by decide +kernel)) (fun _ h9 => h9) rfl dX11_digest_95 ?_
  refine lv_iload_n hx hb dX11_digest_98 rfl (lv_at hl 0 rfl) ?_
  refine va_aldq hx hb hK hP 1 0 rfl rfl (show vp_in 5 6 by unfold vp_in; decide) dX11_digest_99 ?_
  refine lq_v (.ref (ad 13)) rfl ?_
  refine lv_lload_n hx hb dX11_digest_100 rfl (lv_at hl 1 rfl) ?_
  refine cr_l (va_runV (As := [.long (-4484464347906231409)]) (rest := []) ⟨hx, hb, hml, hown, hts⟩ (cx_Row_digestOn l dC dI (wX cs ad) (tyX cs) s.heap hP 13 (ad 13) (ad 26) rfl (-4484464347906231409)) (cwV 1 hts gX11_digest_X6_digestOn rfl rfl rfl (by decide +kernel) ⟨Nat.le_of_ble_eq_true rfl, Nat.le_of_ble_eq_true rfl⟩) ⟨pb_c, va_recv hK hP (ci := 6) (q0 := 13) rfl rfl, pb_m hK⟩ rfl rfl hl.1 rfl (lv_room (Nat.le_of_ble_eq_true rfl)) dX11_digest_101 ⟨Nat.zero_le _, Nat.zero_le _⟩) hS (fun r_16 hw_16 locs hS => ?_)
  obtain rfl : r_16 = 8555557804583239248 := hw_16.trans (by decide +kernel)
  refine lv_lstore_n (lv' := [(1, .long 8555557804583239248), (3, .int 5), (0, .ref (ad 0))]) hx hb dX11_digest_104 rfl hl (by decide) rfl (fun ls hl => ?_)
  refine lv_iinc (v := 6) (lv' := [(3, .int 6), (1, .long 8555557804583239248), (0, .ref (ad 0))]) hx hb dX11_digest_105 hl (k := 1) rfl (by decide) (by decide) rfl (fun ls hl => ?_)
  refine lv_goto (tgt := 88) hx hb dX11_digest_108 (by decide) ?_
  refine lv_iload_n hx hb dX11_digest_88 rfl (lv_at hl 0 rfl) ?_
  refine lv_bipush (v := 6) hx hb dX11_digest_89 (by decide) ?_
  refine lv_icmp_ge (tgt := 111) hx hb dX11_digest_91 (by decide) (fun _ => ?_) (fun c => absurd (by decide) c)
  refine lv_iconst (v := 0) hx hb dX11_digest_111 (by decide) ?_
  refine lv_istore_n (lv' := [(3, .int 0), (1, .long 8555557804583239248), (0, .ref (ad 0))]) hx hb dX11_digest_112 rfl hl (by decide) rfl (fun ls hl => ?_)
  refine lv_iload_n hx hb dX11_digest_113 rfl (lv_at hl 0 rfl) ?_
  refine lv_iconst (v := 4) hx hb dX11_digest_114 (by decide) ?_
  refine lv_icmp_ge (tgt := 135) hx hb dX11_digest_115 (by decide) (fun c => absurd c (by decide)) (fun _ => ?_)
  refine lv_aload_n hx hb dX11_digest_118 rfl (lv_at hl 2 rfl) ?_
  refine va_get (D := (dC, dI)) (ci := 11) (v := .ref (ad 2)) (C := RX11) (T := TX11) (N := 11) hx hb hts (by decide +kernel) hown hK hP 0 rfl rfl 1 (by decide) (hts (.fieldLink RX11 17 "DearLetters" "texts" "[LDearLetters$Text;") (by decide +kernel)) (fun _ h9 => h9) rfl dX11_digest_119 ?_
  refine lv_iload_n hx hb dX11_digest_122 rfl (lv_at hl 0 rfl) ?_
  refine va_aldq hx hb hK hP 2 1 rfl rfl (show vp_in 0 4 by unfold vp_in; decide) dX11_digest_123 ?_
  refine lq_v (.ref (ad 14)) rfl ?_
  refine lv_lload_n hx hb dX11_digest_124 rfl (lv_at hl 1 rfl) ?_
  refine cr_l (va_runV (As := [.long 8555557804583239248]) (rest := []) ⟨hx, hb, hml, hown, hts⟩ (cx_Text_digestOn l dC dI (wX cs ad) (tyX cs) s.heap hP 14 (ad 14) (ad 27) rfl 8555557804583239248) (cwV 1 hts gX11_digest_X9_digestOn rfl rfl rfl (by decide +kernel) ⟨Nat.le_of_ble_eq_true rfl, Nat.le_of_ble_eq_true rfl⟩) ⟨pb_c, va_recv hK hP (ci := 9) (q0 := 14) rfl rfl, pb_m hK⟩ rfl rfl hl.1 rfl (lv_room (Nat.le_of_ble_eq_true rfl)) dX11_digest_125 ⟨Nat.zero_le _, Nat.zero_le _⟩) hS (fun r_17 hw_17 locs hS => ?_)
  obtain rfl : r_17 = 6967874910146694063 := hw_17.trans (by decide +kernel)
  refine lv_lstore_n (lv' := [(1, .long 6967874910146694063), (3, .int 0), (0, .ref (ad 0))]) hx hb dX11_digest_128 rfl hl (by decide) rfl (fun ls hl => ?_)
  refine lv_iinc (v := 1) (lv' := [(3, .int 1), (1, .long 6967874910146694063), (0, .ref (ad 0))]) hx hb dX11_digest_129 hl (k := 1) rfl (by decide) (by decide) rfl (fun ls hl => ?_)
  refine lv_goto (tgt := 113) hx hb dX11_digest_132 (by decide) ?_
  refine lv_iload_n hx hb dX11_digest_113 rfl (lv_at hl 0 rfl) ?_
  refine lv_iconst (v := 4) hx hb dX11_digest_114 (by decide) ?_
  refine lv_icmp_ge (tgt := 135) hx hb dX11_digest_115 (by decide) (fun c => absurd c (by decide)) (fun _ => ?_)
  refine lv_aload_n hx hb dX11_digest_118 rfl (lv_at hl 2 rfl) ?_
  refine va_get (D := (dC, dI)) (ci := 11) (v := .ref (ad 2)) (C := RX11) (T := TX11) (N := 11) hx hb hts (by decide +kernel) hown hK hP 0 rfl rfl 1 (by decide) (hts (.fieldLink RX11 17 "DearLetters" "texts" "[LDearLetters$Text;") (by decide +kernel)) (fun _ h9 => h9) rfl dX11_digest_119 ?_
  refine lv_iload_n hx hb dX11_digest_122 rfl (lv_at hl 0 rfl) ?_
  refine va_aldq hx hb hK hP 2 1 rfl rfl (show vp_in 1 4 by unfold vp_in; decide) dX11_digest_123 ?_
  refine lq_v (.ref (ad 15)) rfl ?_
  refine lv_lload_n hx hb dX11_digest_124 rfl (lv_at hl 1 rfl) ?_
  refine cr_l (va_runV (As := [.long 6967874910146694063]) (rest := []) ⟨hx, hb, hml, hown, hts⟩ (cx_Text_digestOn l dC dI (wX cs ad) (tyX cs) s.heap hP 15 (ad 15) (ad 28) rfl 6967874910146694063) (cwV 1 hts gX11_digest_X9_digestOn rfl rfl rfl (by decide +kernel) ⟨Nat.le_of_ble_eq_true rfl, Nat.le_of_ble_eq_true rfl⟩) ⟨pb_c, va_recv hK hP (ci := 9) (q0 := 15) rfl rfl, pb_m hK⟩ rfl rfl hl.1 rfl (lv_room (Nat.le_of_ble_eq_true rfl)) dX11_digest_125 ⟨Nat.zero_le _, Nat.zero_le _⟩) hS (fun r_18 hw_18 locs hS => ?_)
  obtain rfl : r_18 = (-5356806669967103440) := hw_18.trans (by decide +kernel)
  refine lv_lstore_n (lv' := [(1, .long (-5356806669967103440)), (3, .int 1), (0, .ref (ad 0))]) hx hb dX11_digest_128 rfl hl (by decide) rfl (fun ls hl => ?_)
  refine lv_iinc (v := 2) (lv' := [(3, .int 2), (1, .long (-5356806669967103440)), (0, .ref (ad 0))]) hx hb dX11_digest_129 hl (k := 1) rfl (by decide) (by decide) rfl (fun ls hl => ?_)
  refine lv_goto (tgt := 113) hx hb dX11_digest_132 (by decide) ?_
  refine lv_iload_n hx hb dX11_digest_113 rfl (lv_at hl 0 rfl) ?_
  refine lv_iconst (v := 4) hx hb dX11_digest_114 (by decide) ?_
  refine lv_icmp_ge (tgt := 135) hx hb dX11_digest_115 (by decide) (fun c => absurd c (by decide)) (fun _ => ?_)
  refine lv_aload_n hx hb dX11_digest_118 rfl (lv_at hl 2 rfl) ?_
  refine va_get (D := (dC, dI)) (ci := 11) (v := .ref (ad 2)) (C := RX11) (T := TX11) (N := 11) hx hb hts (by decide +kernel) hown hK hP 0 rfl rfl 1 (by decide) (hts (.fieldLink RX11 17 "DearLetters" "texts" "[LDearLetters$Text;") (by decide +kernel)) (fun _ h9 => h9) rfl dX11_digest_119 ?_
  refine lv_iload_n hx hb dX11_digest_122 rfl (lv_at hl 0 rfl) ?_
  refine va_aldq hx hb hK hP 2 1 rfl rfl (show vp_in 2 4 by unfold vp_in; decide) dX11_digest_123 ?_
  refine lq_v (.ref (ad 16)) rfl ?_
  refine lv_lload_n hx hb dX11_digest_124 rfl (lv_at hl 1 rfl) ?_
  refine cr_l (va_runV (As := [.long (-5356806669967103440)]) (rest := []) ⟨hx, hb, hml, hown, hts⟩ (cx_Text_digestOn l dC dI (wX cs ad) (tyX cs) s.heap hP 16 (ad 16) (ad 29) rfl (-5356806669967103440)) (cwV 1 hts gX11_digest_X9_digestOn rfl rfl rfl (by decide +kernel) ⟨Nat.le_of_ble_eq_true rfl, Nat.le_of_ble_eq_true rfl⟩) ⟨pb_c, va_recv hK hP (ci := 9) (q0 := 16) rfl rfl, pb_m hK⟩ rfl rfl hl.1 rfl (lv_room (Nat.le_of_ble_eq_true rfl)) dX11_digest_125 ⟨Nat.zero_le _, Nat.zero_le _⟩) hS (fun r_19 hw_19 locs hS => ?_)
  obtain rfl : r_19 = (-40310105594242097) := hw_19.trans (by decide +kernel)
  refine lv_lstore_n (lv' := [(1, .long (-40310105594242097)), (3, .int 2), (0, .ref (ad 0))]) hx hb dX11_digest_128 rfl hl (by decide) rfl (fun ls hl => ?_)
  refine lv_iinc (v := 3) (lv' := [(3, .int 3), (1, .long (-40310105594242097)), (0, .ref (ad 0))]) hx hb dX11_digest_129 hl (k := 1) rfl (by decide) (by decide) rfl (fun ls hl => ?_)
  refine lv_goto (tgt := 113) hx hb dX11_digest_132 (by decide) ?_
  refine lv_iload_n hx hb dX11_digest_113 rfl (lv_at hl 0 rfl) ?_
  refine lv_iconst (v := 4) hx hb dX11_digest_114 (by decide) ?_
  refine lv_icmp_ge (tgt := 135) hx hb dX11_digest_115 (by decide) (fun c => absurd c (by decide)) (fun _ => ?_)
  refine lv_aload_n hx hb dX11_digest_118 rfl (lv_at hl 2 rfl) ?_
  refine va_get (D := (dC, dI)) (ci := 11) (v := .ref (ad 2)) (C := RX11) (T := TX11) (N := 11) hx hb hts (by decide +kernel) hown hK hP 0 rfl rfl 1 (by decide) (hts (.fieldLink RX11 17 "DearLetters" "texts" "[LDearLetters$Text;") (by decide +kernel)) (fun _ h9 => h9) rfl dX11_digest_119 ?_
  refine lv_iload_n hx hb dX11_digest_122 rfl (lv_at hl 0 rfl) ?_
  refine va_aldq hx hb hK hP 2 1 rfl rfl (show vp_in 3 4 by unfold vp_in; decide) dX11_digest_123 ?_
  refine lq_v (.ref (ad 17)) rfl ?_
  refine lv_lload_n hx hb dX11_digest_124 rfl (lv_at hl 1 rfl) ?_
  refine cr_l (va_runV (As := [.long (-40310105594242097)]) (rest := []) ⟨hx, hb, hml, hown, hts⟩ (cx_Text_digestOn l dC dI (wX cs ad) (tyX cs) s.heap hP 17 (ad 17) (ad 30) rfl (-40310105594242097)) (cwV 1 hts gX11_digest_X9_digestOn rfl rfl rfl (by decide +kernel) ⟨Nat.le_of_ble_eq_true rfl, Nat.le_of_ble_eq_true rfl⟩) ⟨pb_c, va_recv hK hP (ci := 9) (q0 := 17) rfl rfl, pb_m hK⟩ rfl rfl hl.1 rfl (lv_room (Nat.le_of_ble_eq_true rfl)) dX11_digest_125 ⟨Nat.zero_le _, Nat.zero_le _⟩) hS (fun r_20 hw_20 locs hS => ?_)
  obtain rfl : r_20 = (-1249613273421505008) := hw_20.trans (by decide +kernel)
  refine lv_lstore_n (lv' := [(1, .long (-1249613273421505008)), (3, .int 3), (0, .ref (ad 0))]) hx hb dX11_digest_128 rfl hl (by decide) rfl (fun ls hl => ?_)
  refine lv_iinc (v := 4) (lv' := [(3, .int 4), (1, .long (-1249613273421505008)), (0, .ref (ad 0))]) hx hb dX11_digest_129 hl (k := 1) rfl (by decide) (by decide) rfl (fun ls hl => ?_)
  refine lv_goto (tgt := 113) hx hb dX11_digest_132 (by decide) ?_
  refine lv_iload_n hx hb dX11_digest_113 rfl (lv_at hl 0 rfl) ?_
  refine lv_iconst (v := 4) hx hb dX11_digest_114 (by decide) ?_
  refine lv_icmp_ge (tgt := 135) hx hb dX11_digest_115 (by decide) (fun _ => ?_) (fun c => absurd (by decide) c)
  refine lv_lload_n hx hb dX11_digest_135 rfl (lv_at hl 1 rfl) ?_
  exact W.lret (v := (-1249613273421505008)) hx hb hr (fun t ht hW => ⟨⟨(-1249613273421505008), (), rfl, rfl, ht⟩, hS.F ht⟩) hS.2.2 dX11_digest_136
