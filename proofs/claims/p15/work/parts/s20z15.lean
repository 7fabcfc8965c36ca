set_option maxHeartbeats 4000000 in
set_option maxRecDepth 100000 in
/-- qx_digest -/
theorem qx_digest (l : Launch) (dC : Nat → ClassId) (dI : Nat → Nat → Nat) (cs : Nat → ClassId) (ad : Nat → Nat) (mu : Nat → Nat → Int32) (ok : okR loX hiX mu) (H : Heap) (hP : va_P (dC, dI) vwCl (wR 157 ad (EX cs ad) mu) H) (hD0 : va_D (fun _ => True) (wR 157 ad (EX cs ad) mu)) : Met l yX11_digest (wU yX11_digest cX11_digest 4 (some .long)) ({ frames := 5, cells := 0, slots := 0, locals := 125 }) (va_Pc [.ref (ad 0)] (sz_P (dC, dI) vwCl (tyW cs) H)) (va_Ql (fun (z : Int64) (xi : Nat → Nat → Int32) => okR loX hiX xi ∧ (True) ∧ (∀ k f : Nat, Nat.testBit 510 (gpX k f) = true → xi k f = mu k f)) (fun xi t => va_P (dC, dI) vwCl (wR 157 ad (EX cs ad) xi) t.heap) (va_A (wR 157 ad (EX cs ad) mu) H.size)) 0 0 (va_A (wR 157 ad (EX cs ad) mu) H.size) := by
  refine Met.ofW (cc := cX11_digest) (maxL := 4) (ret := (some .long)) (by decide) rfl ?_
  intro p e s m args below meth c s₁ B hml hv
  obtain ⟨rfl, hh, hK, hz⟩ := hv
  have hx := B.exec
  have hb := B.bytes
  have hr := B.returns
  have hts := atoms_spec (ws := (wU yX11_digest cX11_digest 4 (some .long))) B.pre
  have hown : s.vm.findClass RX11 = some m.cls := findClass_of_methodNamed B.named
  have hlocks := B.notSynchronized
  subst hh
  have hD := hD0.self (sz := s.heap.size)
  have hA : ∀ q : Nat, s.heap.size ≤ q → (va_A (wR 157 ad (EX cs ad) mu) s.heap.size) q := fun q h => Or.inr h
  have hS : va_S (va_A (wR 157 ad (EX cs ad) mu) s.heap.size) s.heap s.heap [] := va_S.rf
  have hl := lv_entry ([.ref (ad 0)]) (n := 4) (Nat.le_of_ble_eq_true rfl)
  rw [lg_entry_eq]
  generalize (lg_sl ([.ref (ad 0)]) ++ List.replicate (4 - (lg_sl ([.ref (ad 0)])).length) Slot.unset).toArray = ls at hl ⊢
  have hl : lv_has ls 4 [(0, .ref (ad 0))] := hl
  refine lv_ldc2 (v := 17) hx hb hown (hts _ (List.mem_cons_of_mem _ mw_5_10)) dX11_digest_0 ?_
  refine lv_lstore_n (lv' := [(1, .long 17), (0, .ref (ad 0))]) hx hb dX11_digest_3 rfl hl (by decide) rfl (fun ls hl => ?_)
  refine lv_iconst (v := 0) hx hb dX11_digest_4 (by decide) ?_
  refine lv_istore_n (lv' := [(3, .int 0), (1, .long 17), (0, .ref (ad 0))]) hx hb dX11_digest_5 rfl hl (by decide) rfl (fun ls hl => ?_)
  have loop6 : ∀ (n6 : Nat) (v1_6 : Int64) (v3_6 : Int32) (nu6_ : Nat → Nat → Int32) (H : Heap) (locs : List Loc) (ls : Array Slot), (9 + 1 - v3_6.toInt).toNat < n6 → (0 ≤ v3_6.toInt ∧ v3_6.toInt ≤ 9) → okR loX hiX nu6_ → va_P (dC, dI) vwCl (wR 157 ad (EX cs ad) nu6_) H → (∀ k f : Nat, Nat.testBit 510 (gpX k f) = true → nu6_ k f = mu k f) → va_S (va_A (wR 157 ad (EX cs ad) mu) s.heap.size) s.heap H locs → lv_has ls 4 [(3, .int v3_6), (1, .long v1_6), (0, .ref (ad 0))] → W p l e (headSpec (wU yX11_digest cX11_digest 4 (some .long)) ({ frames := 5, cells := 0, slots := 0, locals := 125 })).room s m ([.ref (ad 0)] : List Value).toArray below meth c H locs 0 0 (MQ below (va_Ql (fun (z : Int64) (xi : Nat → Nat → Int32) => okR loX hiX xi ∧ (True) ∧ (∀ k f : Nat, Nat.testBit 510 (gpX k f) = true → xi k f = mu k f)) (fun xi t => va_P (dC, dI) vwCl (wR 157 ad (EX cs ad) xi) t.heap) (va_A (wR 157 ad (EX cs ad) mu) s.heap.size)) ([.ref (ad 0)] : List Value).toArray s 0 0 (va_A (wR 157 ad (EX cs ad) mu) s.heap.size)) (F0 m 6 ls []) := by
    intro n6
    induction n6 with
    | zero => intro v1_6 v3_6 nu6_ H locs ls hm; exact absurd hm (Nat.not_lt_zero _)
    | succ n6 ih6 =>
      intro v1_6 v3_6 nu6_ H locs ls hm h_v3_6 ok hP kq6_0 hS hl
      refine lv_iload_n hx hb dX11_digest_6 rfl (lv_at hl 0 rfl) ?_
      refine lv_bipush (v := 9) hx hb dX11_digest_7 (by decide) ?_
      refine lv_icmp_ge (tgt := 31) hx hb dX11_digest_9 (by decide) (fun c_1 => ?_) (fun c_1 => ?_)
      · have c_1 : 9 ≤ v3_6.toInt := il_le c_1
        refine lv_aload_n hx hb dX11_digest_31 rfl (lv_at hl 2 rfl) ?_
        refine va_get (D := (dC, dI)) (ci := 11) (v := .ref (ad 4)) (C := RX11) (T := TX11) (N := 11) hx hb hts inG11 hown hK hP 0 (gX_0 cs ad nu6_) rfl 3 (by decide) (hts _ (List.mem_cons_of_mem _ mw_2_161)) (fun _ h9 => h9) rfl dX11_digest_32 ?_
        refine lv_lload_n hx hb dX11_digest_35 rfl (lv_at hl 1 rfl) ?_
        refine cr_l (va_runV (As := [.long v1_6]) (rest := []) ⟨hx, hb, hml, hown, hts⟩ (sx_Town_digestOn l dC dI cs ad nu6_ ok H hP v1_6) (cwV 1 hts (wU_V mw_5_16 mw_5_13 mw_5_14 mw_5_15 mw_1_2) rfl rfl rfl (by decide +kernel) ⟨Nat.le_of_ble_eq_true rfl, Nat.le_of_ble_eq_true rfl⟩) ⟨sz_c, va_recv hK hP (ci := 10) (q0 := 4) rfl (gX_4 cs ad nu6_), sz_m hK hz⟩ rfl rfl hl.1 rfl (lv_room (Nat.le_of_ble_eq_true rfl)) dX11_digest_36 ⟨Nat.zero_le _, Nat.zero_le _⟩) hS (fun r2 hw2 locs hS => ?_)
        refine lv_lstore_n (lv' := [(1, .long r2), (3, .int v3_6), (0, .ref (ad 0))]) hx hb dX11_digest_39 rfl hl (by decide) rfl (fun ls hl => ?_)
        refine lv_iconst (v := 0) hx hb dX11_digest_40 (by decide) ?_
        refine lv_istore_n (lv' := [(3, .int 0), (1, .long r2), (0, .ref (ad 0))]) hx hb dX11_digest_41 rfl hl (by decide) rfl (fun ls hl => ?_)
        have loop42 : ∀ (n42 : Nat) (v1_42 : Int64) (v3_42 : Int32) (nu42_ : Nat → Nat → Int32) (H : Heap) (locs : List Loc) (ls : Array Slot), (3 + 1 - v3_42.toInt).toNat < n42 → (0 ≤ v3_42.toInt ∧ v3_42.toInt ≤ 3) → okR loX hiX nu42_ → va_P (dC, dI) vwCl (wR 157 ad (EX cs ad) nu42_) H → (∀ k f : Nat, Nat.testBit 510 (gpX k f) = true → nu42_ k f = mu k f) → va_S (va_A (wR 157 ad (EX cs ad) mu) s.heap.size) s.heap H locs → lv_has ls 4 [(3, .int v3_42), (1, .long v1_42), (0, .ref (ad 0))] → W p l e (headSpec (wU yX11_digest cX11_digest 4 (some .long)) ({ frames := 5, cells := 0, slots := 0, locals := 125 })).room s m ([.ref (ad 0)] : List Value).toArray below meth c H locs 0 0 (MQ below (va_Ql (fun (z : Int64) (xi : Nat → Nat → Int32) => okR loX hiX xi ∧ (True) ∧ (∀ k f : Nat, Nat.testBit 510 (gpX k f) = true → xi k f = mu k f)) (fun xi t => va_P (dC, dI) vwCl (wR 157 ad (EX cs ad) xi) t.heap) (va_A (wR 157 ad (EX cs ad) mu) s.heap.size)) ([.ref (ad 0)] : List Value).toArray s 0 0 (va_A (wR 157 ad (EX cs ad) mu) s.heap.size)) (F0 m 42 ls []) := by
          intro n42
          induction n42 with
          | zero => intro v1_42 v3_42 nu42_ H locs ls hm; exact absurd hm (Nat.not_lt_zero _)
          | succ n42 ih42 =>
            intro v1_42 v3_42 nu42_ H locs ls hm h_v3_42 ok hP kq42_0 hS hl
            refine lv_iload_n hx hb dX11_digest_42 rfl (lv_at hl 0 rfl) ?_
            refine lv_iconst (v := 3) hx hb dX11_digest_43 (by decide) ?_
            refine lv_icmp_ge (tgt := 86) hx hb dX11_digest_44 (by decide) (fun c_3 => ?_) (fun c_3 => ?_)
            · have c_3 : 3 ≤ v3_42.toInt := il_le c_3
              refine lv_iconst (v := 0) hx hb dX11_digest_86 (by decide) ?_
              refine lv_istore_n (lv' := [(3, .int 0), (1, .long v1_42), (0, .ref (ad 0))]) hx hb dX11_digest_87 rfl hl (by decide) rfl (fun ls hl => ?_)
              have loop88 : ∀ (n88 : Nat) (v1_88 : Int64) (v3_88 : Int32) (nu88_ : Nat → Nat → Int32) (H : Heap) (locs : List Loc) (ls : Array Slot), (6 + 1 - v3_88.toInt).toNat < n88 → (0 ≤ v3_88.toInt ∧ v3_88.toInt ≤ 6) → okR loX hiX nu88_ → va_P (dC, dI) vwCl (wR 157 ad (EX cs ad) nu88_) H → (∀ k f : Nat, Nat.testBit 510 (gpX k f) = true → nu88_ k f = mu k f) → va_S (va_A (wR 157 ad (EX cs ad) mu) s.heap.size) s.heap H locs → lv_has ls 4 [(3, .int v3_88), (1, .long v1_88), (0, .ref (ad 0))] → W p l e (headSpec (wU yX11_digest cX11_digest 4 (some .long)) ({ frames := 5, cells := 0, slots := 0, locals := 125 })).room s m ([.ref (ad 0)] : List Value).toArray below meth c H locs 0 0 (MQ below (va_Ql (fun (z : Int64) (xi : Nat → Nat → Int32) => okR loX hiX xi ∧ (True) ∧ (∀ k f : Nat, Nat.testBit 510 (gpX k f) = true → xi k f = mu k f)) (fun xi t => va_P (dC, dI) vwCl (wR 157 ad (EX cs ad) xi) t.heap) (va_A (wR 157 ad (EX cs ad) mu) s.heap.size)) ([.ref (ad 0)] : List Value).toArray s 0 0 (va_A (wR 157 ad (EX cs ad) mu) s.heap.size)) (F0 m 88 ls []) := by
                intro n88
                induction n88 with
                | zero => intro v1_88 v3_88 nu88_ H locs ls hm; exact absurd hm (Nat.not_lt_zero _)
                | succ n88 ih88 =>
                  intro v1_88 v3_88 nu88_ H locs ls hm h_v3_88 ok hP kq88_0 hS hl
                  refine lv_iload_n hx hb dX11_digest_88 rfl (lv_at hl 0 rfl) ?_
                  refine lv_bipush (v := 6) hx hb dX11_digest_89 (by decide) ?_
                  refine lv_icmp_ge (tgt := 111) hx hb dX11_digest_91 (by decide) (fun c_4 => ?_) (fun c_4 => ?_)
                  · have c_4 : 6 ≤ v3_88.toInt := il_le c_4
                    refine lv_iconst (v := 0) hx hb dX11_digest_111 (by decide) ?_
                    refine lv_istore_n (lv' := [(3, .int 0), (1, .long v1_88), (0, .ref (ad 0))]) hx hb dX11_digest_112 rfl hl (by decide) rfl (fun ls hl => ?_)
                    have loop113 : ∀ (n113 : Nat) (v1_113 : Int64) (v3_113 : Int32) (nu113_ : Nat → Nat → Int32) (H : Heap) (locs : List Loc) (ls : Array Slot), (4 + 1 - v3_113.toInt).toNat < n113 → (0 ≤ v3_113.toInt ∧ v3_113.toInt ≤ 4) → okR loX hiX nu113_ → va_P (dC, dI) vwCl (wR 157 ad (EX cs ad) nu113_) H → (∀ k f : Nat, Nat.testBit 510 (gpX k f) = true → nu113_ k f = mu k f) → va_S (va_A (wR 157 ad (EX cs ad) mu) s.heap.size) s.heap H locs → lv_has ls 4 [(3, .int v3_113), (1, .long v1_113), (0, .ref (ad 0))] → W p l e (headSpec (wU yX11_digest cX11_digest 4 (some .long)) ({ frames := 5, cells := 0, slots := 0, locals := 125 })).room s m ([.ref (ad 0)] : List Value).toArray below meth c H locs 0 0 (MQ below (va_Ql (fun (z : Int64) (xi : Nat → Nat → Int32) => okR loX hiX xi ∧ (True) ∧ (∀ k f : Nat, Nat.testBit 510 (gpX k f) = true → xi k f = mu k f)) (fun xi t => va_P (dC, dI) vwCl (wR 157 ad (EX cs ad) xi) t.heap) (va_A (wR 157 ad (EX cs ad) mu) s.heap.size)) ([.ref (ad 0)] : List Value).toArray s 0 0 (va_A (wR 157 ad (EX cs ad) mu) s.heap.size)) (F0 m 113 ls []) := by
                      intro n113
                      induction n113 with
                      | zero => intro v1_113 v3_113 nu113_ H locs ls hm; exact absurd hm (Nat.not_lt_zero _)
                      | succ n113 ih113 =>
                        intro v1_113 v3_113 nu113_ H locs ls hm h_v3_113 ok hP kq113_0 hS hl
                        refine lv_iload_n hx hb dX11_digest_113 rfl (lv_at hl 0 rfl) ?_
                        refine lv_iconst (v := 4) hx hb dX11_digest_114 (by decide) ?_
                        refine lv_icmp_ge (tgt := 135) hx hb dX11_digest_115 (by decide) (fun c_5 => ?_) (fun c_5 => ?_)
                        · have c_5 : 4 ≤ v3_113.toInt := il_le c_5
                          refine lv_lload_n hx hb dX11_digest_135 rfl (lv_at hl 1 rfl) ?_
                          exact W.lret (v := v1_113) hx hb hr (fun t ht hW => ⟨⟨v1_113, nu113_, rfl, ⟨ok, trivial, kq113_0⟩, by first | (subst ht; exact hP) | (rw [ht]; exact hP) | (show va_P (dC, dI) vwCl (wR 157 ad (EX cs ad) nu113_) t.heap; rw [ht]; exact hP)⟩, hS.F ht⟩) hS.2.2 dX11_digest_136
                        · have c_5 : v3_113.toInt < 4 := il_nle c_5
                          refine lv_aload_n hx hb dX11_digest_118 rfl (lv_at hl 2 rfl) ?_
                          refine va_get (D := (dC, dI)) (ci := 11) (v := .ref (ad 2)) (C := RX11) (T := TX11) (N := 11) hx hb hts inG11 hown hK hP 0 (gX_0 cs ad nu113_) rfl 1 (by decide) (hts _ (List.mem_cons_of_mem _ mw_2_159)) (fun _ h9 => h9) rfl dX11_digest_119 ?_
                          refine lv_iload_n hx hb dX11_digest_122 rfl (lv_at hl 0 rfl) ?_
                          have hx6 : 0 ≤ v3_113.toInt ∧ v3_113.toInt < ((4 : Nat) : Int) := ⟨by omega, by omega⟩
                          refine va_aldq hx hb hK hP 2 3 (gX_2 cs ad nu113_) rfl (show vp_in v3_113 4 from vi_of hx6.1 hx6.2) dX11_digest_123 ?_
                          have hk6 : 14 ≤ (14 + v3_113.toNatClampNeg) ∧ (14 + v3_113.toNatClampNeg) < 18 := ix_of hx6
                          refine lq_v (.ref (ad (14 + v3_113.toNatClampNeg))) rfl ?_
                          refine lv_lload_n hx hb dX11_digest_124 rfl (lv_at hl 1 rfl) ?_
                          refine cr_l (va_runV (As := [.long v1_113]) (rest := []) ⟨hx, hb, hml, hown, hts⟩ (sx_Text_digestOn l dC dI cs ad nu113_ ok H hP (14 + v3_113.toNatClampNeg) hk6.1 hk6.2 v1_113) (cwV 1 hts (wU_V mw_5_33 mw_5_30 mw_5_31 mw_5_32 mw_1_12) rfl rfl rfl (by decide +kernel) ⟨Nat.le_of_ble_eq_true rfl, Nat.le_of_ble_eq_true rfl⟩) ⟨sz_c, va_recv hK hP (ci := 9) (q0 := (14 + v3_113.toNatClampNeg)) rfl (gX_text cs ad nu113_ (14 + v3_113.toNatClampNeg) hk6.1 hk6.2), sz_m hK hz⟩ rfl rfl hl.1 rfl (lv_room (Nat.le_of_ble_eq_true rfl)) dX11_digest_125 ⟨Nat.zero_le _, Nat.zero_le _⟩) hS (fun r7 hw7 locs hS => ?_)
                          refine lv_lstore_n (lv' := [(1, .long r7), (3, .int v3_113), (0, .ref (ad 0))]) hx hb dX11_digest_128 rfl hl (by decide) rfl (fun ls hl => ?_)
                          refine lv_iinc (v := (v3_113 + 1)) (lv' := [(3, .int (v3_113 + 1)), (1, .long r7), (0, .ref (ad 0))]) hx hb dX11_digest_129 hl (k := 1) rfl rfl (by decide) rfl (fun ls hl => ?_)
                          refine loc_gen (P := fun w9 => lv_has ls 4 [(3, .int w9), (1, .long r7), (0, .ref (ad 0))]) (v3_113 + 1) hl (fun w8 hw8 hl => ?_)
                          have hl : lv_has ls 4 [(3, .int w8), (1, .long r7), (0, .ref (ad 0))] := hl
                          have aw8 : w8.toInt = v3_113.toInt + 1 := by rw [← hw8]; exact tI_add (rfl : v3_113.toInt = _) (rfl : (1 : Int32).toInt = 1) (by omega) (by omega)
                          refine lv_goto (tgt := 113) hx hb dX11_digest_132 (by decide) ?_
                          exact ih113 (r7) (w8) nu113_ _ _ _ (by omega) (by exact ⟨by omega, by omega⟩)  ok hP  kq113_0 hS (lv_sub hl [0, 1, 2] rfl)
                    exact loop113 ((4 + 1 - (0 : Int32).toInt).toNat + 1) (v1_88) (0) nu88_ _ _ _ (Nat.lt_succ_self _) (by have h80 : (0 : Int32).toInt = 0 := rfl; exact ⟨by omega, by omega⟩)  ok hP  kq88_0 hS hl
                  · have c_4 : v3_88.toInt < 6 := il_nle c_4
                    refine lv_aload_n hx hb dX11_digest_94 rfl (lv_at hl 2 rfl) ?_
                    refine va_get (D := (dC, dI)) (ci := 11) (v := .ref (ad 1)) (C := RX11) (T := TX11) (N := 11) hx hb hts inG11 hown hK hP 0 (gX_0 cs ad nu88_) rfl 0 (by decide) (hts _ (List.mem_cons_of_mem _ mw_2_158)) (fun _ h9 => h9) rfl dX11_digest_95 ?_
                    refine lv_iload_n hx hb dX11_digest_98 rfl (lv_at hl 0 rfl) ?_
                    have hx9 : 0 ≤ v3_88.toInt ∧ v3_88.toInt < ((6 : Nat) : Int) := ⟨by omega, by omega⟩
                    refine va_aldq hx hb hK hP 1 2 (gX_1 cs ad nu88_) rfl (show vp_in v3_88 6 from vi_of hx9.1 hx9.2) dX11_digest_99 ?_
                    have hk9 : 8 ≤ (8 + v3_88.toNatClampNeg) ∧ (8 + v3_88.toNatClampNeg) < 14 := ix_of hx9
                    refine lq_v (.ref (ad (8 + v3_88.toNatClampNeg))) rfl ?_
                    refine lv_lload_n hx hb dX11_digest_100 rfl (lv_at hl 1 rfl) ?_
                    refine cr_l (va_runV (As := [.long v1_88]) (rest := []) ⟨hx, hb, hml, hown, hts⟩ (sx_Row_digestOn l dC dI cs ad nu88_ ok H hP (8 + v3_88.toNatClampNeg) hk9.1 hk9.2 v1_88) (cwV 1 hts (wU_V mw_5_28 mw_5_25 mw_5_26 mw_5_27 mw_1_11) rfl rfl rfl (by decide +kernel) ⟨Nat.le_of_ble_eq_true rfl, Nat.le_of_ble_eq_true rfl⟩) ⟨sz_c, va_recv hK hP (ci := 6) (q0 := (8 + v3_88.toNatClampNeg)) rfl (gX_row cs ad nu88_ (8 + v3_88.toNatClampNeg) hk9.1 hk9.2), sz_m hK hz⟩ rfl rfl hl.1 rfl (lv_room (Nat.le_of_ble_eq_true rfl)) dX11_digest_101 ⟨Nat.zero_le _, Nat.zero_le _⟩) hS (fun r10 hw10 locs hS => ?_)
                    refine lv_lstore_n (lv' := [(1, .long r10), (3, .int v3_88), (0, .ref (ad 0))]) hx hb dX11_digest_104 rfl hl (by decide) rfl (fun ls hl => ?_)
                    refine lv_iinc (v := (v3_88 + 1)) (lv' := [(3, .int (v3_88 + 1)), (1, .long r10), (0, .ref (ad 0))]) hx hb dX11_digest_105 hl (k := 1) rfl rfl (by decide) rfl (fun ls hl => ?_)
                    refine loc_gen (P := fun w9 => lv_has ls 4 [(3, .int w9), (1, .long r10), (0, .ref (ad 0))]) (v3_88 + 1) hl (fun w11 hw11 hl => ?_)
                    have hl : lv_has ls 4 [(3, .int w11), (1, .long r10), (0, .ref (ad 0))] := hl
                    have aw11 : w11.toInt = v3_88.toInt + 1 := by rw [← hw11]; exact tI_add (rfl : v3_88.toInt = _) (rfl : (1 : Int32).toInt = 1) (by omega) (by omega)
                    refine lv_goto (tgt := 88) hx hb dX11_digest_108 (by decide) ?_
                    exact ih88 (r10) (w11) nu88_ _ _ _ (by omega) (by exact ⟨by omega, by omega⟩)  ok hP  kq88_0 hS (lv_sub hl [0, 1, 2] rfl)
              exact loop88 ((6 + 1 - (0 : Int32).toInt).toNat + 1) (v1_42) (0) nu42_ _ _ _ (Nat.lt_succ_self _) (by have h80 : (0 : Int32).toInt = 0 := rfl; exact ⟨by omega, by omega⟩)  ok hP  kq42_0 hS hl
            · have c_3 : v3_42.toInt < 3 := il_nle c_3
              refine lv_ldc2 (v := 31) hx hb hown (hts _ (List.mem_cons_of_mem _ mw_5_11)) dX11_digest_47 ?_
              refine lv_lload_n hx hb dX11_digest_50 rfl (lv_at hl 1 rfl) ?_
              refine lv_lmul hx hb dX11_digest_51 ?_
              refine lv_topl (fun l12 el12 => ?_)
              refine lv_aload_n hx hb dX11_digest_52 rfl (lv_at hl 2 rfl) ?_
              refine va_get (D := (dC, dI)) (ci := 11) (v := .ref (ad 3)) (C := RX11) (T := TX11) (N := 11) hx hb hts inG11 hown hK hP 0 (gX_0 cs ad nu42_) rfl 2 (by decide) (hts _ (List.mem_cons_of_mem _ mw_2_160)) (fun _ h9 => h9) rfl dX11_digest_53 ?_
              refine lv_iload_n hx hb dX11_digest_56 rfl (lv_at hl 0 rfl) ?_
              have hx13 : 0 ≤ v3_42.toInt ∧ v3_42.toInt < ((3 : Nat) : Int) := ⟨by omega, by omega⟩
              refine va_aldq hx hb hK hP 3 4 (gX_3 cs ad nu42_) rfl (show vp_in v3_42 3 from vi_of hx13.1 hx13.2) dX11_digest_57 ?_
              have hk13 : 18 ≤ (18 + v3_42.toNatClampNeg) ∧ (18 + v3_42.toNatClampNeg) < 21 := ix_of hx13
              refine lq_v (.ref (ad (18 + v3_42.toNatClampNeg))) rfl ?_
              refine va_get (D := (dC, dI)) (ci := 8) (v := .int (nu42_ (18 + v3_42.toNatClampNeg) 5)) (C := RX8) (T := TX8) (N := 6) hx hb hts inG8 hown hK hP (18 + v3_42.toNatClampNeg) (gX_kept cs ad nu42_ (18 + v3_42.toNatClampNeg) hk13.1 hk13.2) rfl 5 (by decide) (hts _ (List.mem_cons_of_mem _ mw_1_129)) (fun _ h9 => h9) rfl dX11_digest_58 ?_
              refine lv_topi (fun y14 ey14 => ?_)
              have by14 : y14.toInt = (nu42_ (18 + v3_42.toNatClampNeg) 5).toInt := congrArg Int32.toInt ey14
              have gy14 : 0 ≤ y14.toInt ∧ y14.toInt ≤ 1 := by rw [ey14]; exact rX_kept_5 ok (18 + v3_42.toNatClampNeg) hk13.1 hk13.2
              refine lv_if_eq (tgt := 76) hx hb dX11_digest_61 (by decide) (fun c_15 => ?_) (fun c_15 => ?_)
              · have c_15 : y14.toInt = 0 := il_eq c_15
                refine lv_iconst (v := (-1)) hx hb dX11_digest_76 (by decide) ?_
                refine lv_i2l hx hb dX11_digest_77 rfl ?_
                refine lv_topl (fun l16 el16 => ?_)
                refine lv_ladd hx hb dX11_digest_78 ?_
                refine lv_topl (fun l17 el17 => ?_)
                refine lv_lstore_n (lv' := [(1, .long l17), (3, .int v3_42), (0, .ref (ad 0))]) hx hb dX11_digest_79 rfl hl (by decide) rfl (fun ls hl => ?_)
                refine lv_iinc (v := (v3_42 + 1)) (lv' := [(3, .int (v3_42 + 1)), (1, .long l17), (0, .ref (ad 0))]) hx hb dX11_digest_80 hl (k := 1) rfl rfl (by decide) rfl (fun ls hl => ?_)
                refine loc_gen (P := fun w9 => lv_has ls 4 [(3, .int w9), (1, .long l17), (0, .ref (ad 0))]) (v3_42 + 1) hl (fun w18 hw18 hl => ?_)
                have hl : lv_has ls 4 [(3, .int w18), (1, .long l17), (0, .ref (ad 0))] := hl
                have aw18 : w18.toInt = v3_42.toInt + 1 := by rw [← hw18]; exact tI_add (rfl : v3_42.toInt = _) (rfl : (1 : Int32).toInt = 1) (by omega) (by omega)
                refine lv_goto (tgt := 42) hx hb dX11_digest_83 (by decide) ?_
                exact ih42 (l17) (w18) nu42_ _ _ _ (by omega) (by exact ⟨by omega, by omega⟩)  ok hP  kq42_0 hS (lv_sub hl [0, 1, 2] rfl)
              · have c_15 : ¬ y14.toInt = 0 := il_ne c_15
                refine lv_aload_n hx hb dX11_digest_64 rfl (lv_at hl 2 rfl) ?_
                refine va_get (D := (dC, dI)) (ci := 11) (v := .ref (ad 3)) (C := RX11) (T := TX11) (N := 11) hx hb hts inG11 hown hK hP 0 (gX_0 cs ad nu42_) rfl 2 (by decide) (hts _ (List.mem_cons_of_mem _ mw_2_160)) (fun _ h9 => h9) rfl dX11_digest_65 ?_
                refine lv_iload_n hx hb dX11_digest_68 rfl (lv_at hl 0 rfl) ?_
                have hx19 : 0 ≤ v3_42.toInt ∧ v3_42.toInt < ((3 : Nat) : Int) := ⟨by omega, by omega⟩
                refine va_aldq hx hb hK hP 3 4 (gX_3 cs ad nu42_) rfl (show vp_in v3_42 3 from vi_of hx19.1 hx19.2) dX11_digest_69 ?_
                have hk19 : 18 ≤ (18 + v3_42.toNatClampNeg) ∧ (18 + v3_42.toNatClampNeg) < 21 := ix_of hx19
                refine lq_v (.ref (ad (18 + v3_42.toNatClampNeg))) rfl ?_
                refine va_get (D := (dC, dI)) (ci := 8) (v := .int (nu42_ (18 + v3_42.toNatClampNeg) 3)) (C := RX8) (T := TX8) (N := 6) hx hb hts inG8 hown hK hP (18 + v3_42.toNatClampNeg) (gX_kept cs ad nu42_ (18 + v3_42.toNatClampNeg) hk19.1 hk19.2) rfl 3 (by decide) (hts _ (List.mem_cons_of_mem _ mw_1_124)) (fun _ h9 => h9) rfl dX11_digest_70 ?_
                refine lv_topi (fun y20 ey20 => ?_)
                have by20 : y20.toInt = (nu42_ (18 + v3_42.toNatClampNeg) 3).toInt := congrArg Int32.toInt ey20
                refine lv_goto (tgt := 77) hx hb dX11_digest_73 (by decide) ?_
                refine lv_i2l hx hb dX11_digest_77 rfl ?_
                refine lv_topl (fun l21 el21 => ?_)
                refine lv_ladd hx hb dX11_digest_78 ?_
                refine lv_topl (fun l22 el22 => ?_)
                refine lv_lstore_n (lv' := [(1, .long l22), (3, .int v3_42), (0, .ref (ad 0))]) hx hb dX11_digest_79 rfl hl (by decide) rfl (fun ls hl => ?_)
                refine lv_iinc (v := (v3_42 + 1)) (lv' := [(3, .int (v3_42 + 1)), (1, .long l22), (0, .ref (ad 0))]) hx hb dX11_digest_80 hl (k := 1) rfl rfl (by decide) rfl (fun ls hl => ?_)
                refine loc_gen (P := fun w9 => lv_has ls 4 [(3, .int w9), (1, .long l22), (0, .ref (ad 0))]) (v3_42 + 1) hl (fun w23 hw23 hl => ?_)
                have hl : lv_has ls 4 [(3, .int w23), (1, .long l22), (0, .ref (ad 0))] := hl
                have aw23 : w23.toInt = v3_42.toInt + 1 := by rw [← hw23]; exact tI_add (rfl : v3_42.toInt = _) (rfl : (1 : Int32).toInt = 1) (by omega) (by omega)
                refine lv_goto (tgt := 42) hx hb dX11_digest_83 (by decide) ?_
                exact ih42 (l22) (w23) nu42_ _ _ _ (by omega) (by exact ⟨by omega, by omega⟩)  ok hP  kq42_0 hS (lv_sub hl [0, 1, 2] rfl)
        exact loop42 ((3 + 1 - (0 : Int32).toInt).toNat + 1) (r2) (0) nu6_ _ _ _ (Nat.lt_succ_self _) (by have h80 : (0 : Int32).toInt = 0 := rfl; exact ⟨by omega, by omega⟩)  ok hP  kq6_0 hS hl
      · have c_1 : v3_6.toInt < 9 := il_nle c_1
        refine lv_ldc2 (v := 31) hx hb hown (hts _ (List.mem_cons_of_mem _ mw_5_11)) dX11_digest_12 ?_
        refine lv_lload_n hx hb dX11_digest_15 rfl (lv_at hl 1 rfl) ?_
        refine lv_lmul hx hb dX11_digest_16 ?_
        refine lv_topl (fun l24 el24 => ?_)
        refine lv_aload_n hx hb dX11_digest_17 rfl (lv_at hl 2 rfl) ?_
        refine lv_iload_n hx hb dX11_digest_18 rfl (lv_at hl 0 rfl) ?_
        have hFc := fr_all (wR_D nu6_ hD) hS hA
        refine va_calli (va_runV (As := [.int v3_6]) (rest := [.long l24]) ⟨hx, hb, hml, hown, hts⟩ (qx_count l dC dI cs ad nu6_ ok H hP ((wR_D nu6_ hD).weaken (fun _ _ _ _ => trivial)) v3_6) (cwV 1 hts (wU_V mw_4_225 mw_5_12 mw_4_223 mw_4_224 mw_1_1) rfl rfl rfl (by decide +kernel) ⟨Nat.le_of_ble_eq_true rfl, Nat.le_of_ble_eq_true rfl⟩) ⟨sz_c, va_recv hK hP (ci := 11) (q0 := 0) rfl (gX_0 cs ad nu6_), sz_m hK hz⟩ rfl rfl hl.1 rfl (lv_room (Nat.le_of_ble_eq_true rfl)) dX11_digest_19 ⟨Nat.zero_le _, Nat.zero_le _⟩) hS (fun q _ h => hFc q h) hFc (fun r25 xi25 t H25 locs ht hvm hw25 hB hz1 hk1 hS => ?_)
        have hP : va_P (dC, dI) vwCl (wR 157 ad (EX cs ad) xi25) H25 := by rw [← ht]; exact hB
        obtain ⟨ok, hw25, hkp25_0⟩ := hw25
        have kp26 : (∀ k f : Nat, Nat.testBit 510 (gpX k f) = true → xi25 k f = mu k f) := kp_t hkp25_0 (by decide) kq6_0
        refine lv_i2l hx hb dX11_digest_22 rfl ?_
        refine lv_topl (fun l27 el27 => ?_)
        refine lv_ladd hx hb dX11_digest_23 ?_
        refine lv_topl (fun l28 el28 => ?_)
        refine lv_lstore_n (lv' := [(1, .long l28), (3, .int v3_6), (0, .ref (ad 0))]) hx hb dX11_digest_24 rfl hl (by decide) rfl (fun ls hl => ?_)
        refine lv_iinc (v := (v3_6 + 1)) (lv' := [(3, .int (v3_6 + 1)), (1, .long l28), (0, .ref (ad 0))]) hx hb dX11_digest_25 hl (k := 1) rfl rfl (by decide) rfl (fun ls hl => ?_)
        refine loc_gen (P := fun w9 => lv_has ls 4 [(3, .int w9), (1, .long l28), (0, .ref (ad 0))]) (v3_6 + 1) hl (fun w29 hw29 hl => ?_)
        have hl : lv_has ls 4 [(3, .int w29), (1, .long l28), (0, .ref (ad 0))] := hl
        have aw29 : w29.toInt = v3_6.toInt + 1 := by rw [← hw29]; exact tI_add (rfl : v3_6.toInt = _) (rfl : (1 : Int32).toInt = 1) (by omega) (by omega)
        refine lv_goto (tgt := 6) hx hb dX11_digest_28 (by decide) ?_
        exact ih6 (l28) (w29) xi25 _ _ _ (by omega) (by exact ⟨by omega, by omega⟩)  ok hP  kp26 hS (lv_sub hl [0, 1, 2] rfl)
  exact loop6 ((9 + 1 - (0 : Int32).toInt).toNat + 1) (17) (0) mu _ _ _ (Nat.lt_succ_self _) (by have h80 : (0 : Int32).toInt = 0 := rfl; exact ⟨by omega, by omega⟩)  ok hP  (fun _ _ _ => rfl) hS hl
