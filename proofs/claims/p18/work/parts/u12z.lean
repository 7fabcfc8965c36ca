set_option maxHeartbeats 4000000 in
set_option maxRecDepth 100000 in
/-- the Ledger -/
theorem ci_Ledger (l : Launch) (dC : Nat → ClassId) (dI : Nat → Nat → Nat) (cs : Nat → ClassId) (H : Heap) (h0 : Nat) (hP : va_P (dC, dI) vwCl [(h0, .inr (2, [.null, .int 0]))] H) (hD0 : va_D (fun _ => True) [(h0, .inr (2, [.null, .int 0]))]) : Met l yX2_init (wU yX2_init cX2_init 2 none) ({ frames := 2, cells := 81, slots := 600, locals := 34 }) (va_Pc [.ref h0] (kb_P (dC, dI) vwCl (tyW cs) H)) (va_Qv (fun (_ : Unit) => True) (fun _ t => ∃ ad : Nat → Nat, va_P (dC, dI) vwCl ([(h0, .inr (2, [.ref (ad 0), .int 0])), (ad 0, .inl (cs 6, 40, .inr (.inr (.inr (.inr (fun j => some (ad (1 + j))))))))] ++ wR 80 (fun k => ad (1 + k)) (EL cs ad) (fun _ _ => 0)) t.heap ∧ va_D (va_A [(h0, .inr (2, [.null, .int 0]))] H.size) ([(h0, .inr (2, [.ref (ad 0), .int 0])), (ad 0, .inl (cs 6, 40, .inr (.inr (.inr (.inr (fun j => some (ad (1 + j))))))))] ++ wR 80 (fun k => ad (1 + k)) (EL cs ad) (fun _ _ => 0))) (va_A [(h0, .inr (2, [.null, .int 0]))] H.size)) 81 600 (va_A [(h0, .inr (2, [.null, .int 0]))] H.size) := by
  refine Met.ofW (cc := cX2_init) (maxL := 2) (ret := none) (by decide) rfl ?_
  intro p e s m args below meth c s₁ B hml hv
  obtain ⟨rfl, hh, hK, hq⟩ := hv
  have hx := B.exec
  have hb := B.bytes
  have hr := B.returns
  have hts := atoms_spec (ws := (wU yX2_init cX2_init 2 none)) B.pre
  have hown : s.vm.findClass RX2 = some m.cls := findClass_of_methodNamed B.named
  have hlocks := B.notSynchronized
  have hin : meth.name = "<init>" := (name_of_methodNamed B.named B.method).1
  subst hh
  have hD := hD0.self (sz := s.heap.size)
  have hA : ∀ q : Nat, s.heap.size ≤ q → (va_A [(h0, .inr (2, [.null, .int 0]))] s.heap.size) q := fun q h => Or.inr h
  have hS : va_S (va_A [(h0, .inr (2, [.null, .int 0]))] s.heap.size) s.heap s.heap [] := va_S.rf
  have hl := lv_entry ([.ref h0]) (n := 2) (Nat.le_of_ble_eq_true rfl)
  rw [lg_entry_eq]
  generalize (lg_sl ([.ref h0]) ++ List.replicate (2 - (lg_sl ([.ref h0])).length) Slot.unset).toArray = ls at hl ⊢
  have hl : lv_has ls 2 [(0, .ref h0)] := hl
  refine lv_aload_n hx hb dX2_init_0 rfl (lv_at hl 0 rfl) ?_
  refine W.objInit hx hb hown (hts _ (List.mem_cons_of_mem _ mw_1_215)) (hts _ (List.mem_cons_of_mem _ mw_1_24)) (hts _ (List.mem_cons_of_mem _ mw_1_25)) rfl (by rw [hml]; exact hl.1) rfl dX2_init_1 (Nat.le_of_ble_eq_true rfl) (Nat.le_of_ble_eq_true rfl) ?_
  refine W.eq (g2 := F0 m 4 ls []) rfl ?_
  refine lv_aload_n hx hb dX2_init_4 rfl (lv_at hl 0 rfl) ?_
  refine lv_bipush (v := 40) hx hb dX2_init_5 (by decide) ?_
  refine va_newq (C := RX7) hx hb hown (hts _ (List.mem_cons_of_mem _ mw_1_216)) (hq.2.2.2.2.2.2.2.2.2.2.2.2.2) hK hP hD hS hA (by decide) rfl (by decide) (Nat.le_of_ble_eq_true rfl) (Nat.le_of_ble_eq_true rfl) dX2_init_7 (fun q1 c1 H hK1 hP hD hS => ?_)
  obtain rfl : c1 = cs 6 := cA_eq 6 7 hK1 rfl rfl
  have hP : va_P (dC, dI) vwCl [(q1, .inl (cs 6, 40, .inr (.inr (.inr (.inr (fun _ => none)))))), (h0, .inr (2, [.null, .int 0]))] H := pm_P (pm_last [(h0, .inr (2, [.null, .int 0]))] (q1, .inl (cs 6, 40, .inr (.inr (.inr (.inr (fun _ => none))))))) hP
  have hD : va_D (va_A [(h0, .inr (2, [.null, .int 0]))] s.heap.size) [(q1, .inl (cs 6, 40, .inr (.inr (.inr (.inr (fun _ => none)))))), (h0, .inr (2, [.null, .int 0]))] := pm_D (pm_last [(h0, .inr (2, [.null, .int 0]))] (q1, .inl (cs 6, 40, .inr (.inr (.inr (.inr (fun _ => none))))))) hD
  refine W.widen (k := 1) (n := 40) (Nat.le_of_ble_eq_true rfl) (Nat.le_of_ble_eq_true rfl) ?_
  refine va_putF (D := (dC, dI)) (ci := 2) (v := .ref q1) (ty := (.array (.object "DearLetters$Sale"))) (C := RX2) (T := TX2) (N := 2) hx hb hts inG2 tyX2 tyX2_ok nmX2 hown hK hP hD hS 1 rfl rfl 0 (by decide) (hts _ (List.mem_cons_of_mem _ mw_2_6)) (fun _ h9 => h9) rfl hin rfl (by decide +kernel) (by first | rfl | decide) (by first | rfl | decide) (Nat.le_of_ble_eq_true rfl) dX2_init_10 (fun H locs hP hD hS => ?_)
  have hP : va_P (dC, dI) vwCl [(q1, .inl (cs 6, 40, .inr (.inr (.inr (.inr (fun _ => none)))))), (h0, .inr (2, [.ref q1, .int 0]))] H := hP
  have hD : va_D (va_A [(h0, .inr (2, [.null, .int 0]))] s.heap.size) [(q1, .inl (cs 6, 40, .inr (.inr (.inr (.inr (fun _ => none)))))), (h0, .inr (2, [.ref q1, .int 0]))] := hD
  refine lv_iconst (v := 0) hx hb dX2_init_13 (by decide) ?_
  refine lv_istore_n (lv' := [(1, .int 0), (0, .ref h0)]) hx hb dX2_init_14 rfl hl (by decide) rfl (fun ls hl => ?_)
  have step : ∀ (n i : Nat), i + n = 40 → ∀ (a b : Nat → Nat) (H : Heap) (locs : List Loc) (ls : Array Slot), va_P (dC, dI) vwCl ([(q1, .inl (cs 6, 40, .inr (.inr (.inr (.inr (fF a i)))))), (h0, .inr (2, [.ref q1, .int 0]))] ++ wsL cs a b i) H → va_D (va_A [(h0, .inr (2, [.null, .int 0]))] s.heap.size) ([(q1, .inl (cs 6, 40, .inr (.inr (.inr (.inr (fF a i)))))), (h0, .inr (2, [.ref q1, .int 0]))] ++ wsL cs a b i) → va_S (va_A [(h0, .inr (2, [.null, .int 0]))] s.heap.size) s.heap H locs → lv_has ls 2 [(1, .int (nI i)), (0, .ref h0)] → W p l e (headSpec (wU yX2_init cX2_init 2 none) ({ frames := 2, cells := 81, slots := 600, locals := 34 })).room s m (([.ref h0] : List Value).toArray) below meth c H locs (1 + 2 * i) (40 + 14 * i) (MQ below (va_Qv (fun (_ : Unit) => True) (fun _ t => ∃ ad : Nat → Nat, va_P (dC, dI) vwCl ([(h0, .inr (2, [.ref (ad 0), .int 0])), (ad 0, .inl (cs 6, 40, .inr (.inr (.inr (.inr (fun j => some (ad (1 + j))))))))] ++ wR 80 (fun k => ad (1 + k)) (EL cs ad) (fun _ _ => 0)) t.heap ∧ va_D (va_A [(h0, .inr (2, [.null, .int 0]))] s.heap.size) ([(h0, .inr (2, [.ref (ad 0), .int 0])), (ad 0, .inl (cs 6, 40, .inr (.inr (.inr (.inr (fun j => some (ad (1 + j))))))))] ++ wR 80 (fun k => ad (1 + k)) (EL cs ad) (fun _ _ => 0))) (va_A [(h0, .inr (2, [.null, .int 0]))] s.heap.size)) (([.ref h0] : List Value).toArray) s 81 600 (va_A [(h0, .inr (2, [.null, .int 0]))] s.heap.size)) (F0 m 15 ls []) := by
    intro n
    induction n with
    | zero =>
      intro i hi a b H locs ls hP hD hS hl
      obtain rfl : i = 40 := by omega
      refine lv_iload_n hx hb dX2_init_15 rfl (lv_at hl 0 rfl) ?_
      refine lv_bipush (v := 40) hx hb dX2_init_16 (by decide) ?_
      refine lv_icmp_ge (tgt := 40) hx hb dX2_init_18 (by decide) (fun _ => ?_) (fun c => absurd (by decide) c)
      obtain ⟨hP, hD⟩ := va_reQ 0 (fun j => some (adL q1 a b (1 + j))) hP hD rfl (fun j hj => by rw [adL_a hj]; exact if_pos hj)
      have hp : List.Perm (α := Nat × va_E) (([(q1, .inl (cs 6, 40, .inr (.inr (.inr (.inr (fun j => some (adL q1 a b (1 + j)))))))), (h0, .inr (2, [.ref q1, .int 0]))] ++ wsL cs a b 40)) ([(h0, .inr (2, [.ref ((adL q1 a b) 0), .int 0])), ((adL q1 a b) 0, .inl (cs 6, 40, .inr (.inr (.inr (.inr (fun j => some ((adL q1 a b) (1 + j))))))))] ++ wR 80 (fun k => (adL q1 a b) (1 + k)) (EL cs (adL q1 a b)) (fun _ _ => 0)) := by
        rw [wsL_wR]
        exact (List.Perm.append_left _ (wsL_perm cs a b 40)).trans (List.Perm.swap _ _ _)
      have hP := pm_P hp hP
      have hD := pm_D hp hD
      exact W.vret hx hb hr (fun t ht hW => ⟨⟨(), rfl, trivial, adL q1 a b, by first | (subst ht; exact hP) | (rw [ht]; exact hP), hD⟩, hS.F ht⟩) hS.2.2 dX2_init_40
    | succ n ih =>
      intro i hi a b H locs ls hP hD hS hl
      have h40 : (nI i).toInt = (i : Int) := nI_toInt (by omega)
      refine lv_iload_n hx hb dX2_init_15 rfl (lv_at hl 0 rfl) ?_
      refine lv_bipush (v := 40) hx hb dX2_init_16 (by decide) ?_
      refine lv_icmp_ge (tgt := 40) hx hb dX2_init_18 (by decide) (fun c => by have h9 := il_le c; have h8 : (40 : Int32).toInt = 40 := rfl; omega) (fun _ => ?_)
      refine lv_aload_n hx hb dX2_init_21 rfl (lv_at hl 1 rfl) ?_
      refine va_get (D := (dC, dI)) (ci := 2) (v := .ref q1) (C := RX2) (T := TX2) (N := 2) hx hb hts inG2 hown hK hP 1 rfl rfl 0 (by decide) (hts _ (List.mem_cons_of_mem _ mw_2_6)) (fun _ h9 => h9) rfl dX2_init_22 ?_
      refine lv_iload_n hx hb dX2_init_25 rfl (lv_at hl 0 rfl) ?_
      refine va_new (ci := 7) (fs := [.null, .int 0, .int 0, .int 0, .int 0, .int 0, .int 0]) (C := RX7) (T := TX7) (N := 7) hx hb hts inG7 tyX7 tyX7_ok hown (hts _ (List.mem_cons_of_mem _ mw_1_216)) (hts _ (List.mem_cons_of_mem _ mw_1_218)) (hts _ (List.mem_cons_of_mem _ mw_1_7)) hK hP hD hS hA rfl (fun j hj => match j, hj with | 0, _ => rfl | 1, _ => rfl | 2, _ => rfl | 3, _ => rfl | 4, _ => rfl | 5, _ => rfl | 6, _ => rfl | _ + 7, hj => absurd hj (by omega)) (by show 1 + 2 * i + 1 ≤ 81; omega) (by show 40 + 14 * i + 7 ≤ 600; omega) dX2_init_26 (fun q2 H hP hD hS => ?_)
      have hP : va_P (dC, dI) vwCl ([(q2, .inr (7, [.null, .int 0, .int 0, .int 0, .int 0, .int 0, .int 0]))] ++ ([(q1, .inl (cs 6, 40, .inr (.inr (.inr (.inr (fF a i)))))), (h0, .inr (2, [.ref q1, .int 0]))] ++ wsL cs a b i)) H := pm_P (pm_last ([(q1, .inl (cs 6, 40, .inr (.inr (.inr (.inr (fF a i)))))), (h0, .inr (2, [.ref q1, .int 0]))] ++ wsL cs a b i) (q2, .inr (7, [.null, .int 0, .int 0, .int 0, .int 0, .int 0, .int 0]))) hP
      have hD : va_D (va_A [(h0, .inr (2, [.null, .int 0]))] s.heap.size) ([(q2, .inr (7, [.null, .int 0, .int 0, .int 0, .int 0, .int 0, .int 0]))] ++ ([(q1, .inl (cs 6, 40, .inr (.inr (.inr (.inr (fF a i)))))), (h0, .inr (2, [.ref q1, .int 0]))] ++ wsL cs a b i)) := pm_D (pm_last ([(q1, .inl (cs 6, 40, .inr (.inr (.inr (.inr (fF a i)))))), (h0, .inr (2, [.ref q1, .int 0]))] ++ wsL cs a b i) (q2, .inr (7, [.null, .int 0, .int 0, .int 0, .int 0, .int 0, .int 0]))) hD
      refine lv_dup hx hb dX2_init_29 rfl ?_
      have hFc := va_free (wc := [(q2, .inr (7, [.null, .int 0, .int 0, .int 0, .int 0, .int 0, .int 0]))]) hD hS hA [0] rfl
      refine va_callv (va_runIN (As := []) (rest := [.ref q2, .int (nI i), .ref q1]) ⟨hx, hb, hml, hown, hts⟩ (ci_Sale l dC dI cs H q2 (hP.sub (ws' := [(q2, .inr (7, [.null, .int 0, .int 0, .int 0, .int 0, .int 0, .int 0]))]) [0] rfl) ((hD.sub (ws' := [(q2, .inr (7, [.null, .int 0, .int 0, .int 0, .int 0, .int 0, .int 0]))]) [0] (by decide) rfl).weaken (fun _ _ _ _ => trivial))) ⟨va_cnB 0 hts (wU_in mw_1_221) rfl rfl rfl (hq.2.2.2.2.2.2.1) (hts _ (List.mem_cons_of_mem _ mw_1_7)) (by decide +kernel) ⟨Nat.le_of_ble_eq_true rfl, Nat.le_of_ble_eq_true rfl⟩, rfl, (hts _ (List.mem_cons_of_mem _ mw_1_220))⟩ ⟨kb_c, kb_m hK hq⟩ rfl rfl hl.1 rfl (lv_room (Nat.le_of_ble_eq_true rfl)) dX2_init_30 ⟨by show 1 + 2 * i + 1 + 1 ≤ 81; omega, by show 40 + 14 * i + 7 + 7 ≤ 600; omega⟩) hS (fun q _ h => hFc q h) hFc (fun u t H1 locs ht hvm hw hB hz1 hk1 hS => ?_)
      obtain ⟨q3, hP1, hD1⟩ := hB
      rw [ht] at hP1
      obtain ⟨hP, hD⟩ := jn_front (wc := [(q2, .inr (7, [.null, .int 0, .int 0, .int 0, .int 0, .int 0, .int 0]))]) (wr := ([(q1, .inl (cs 6, 40, .inr (.inr (.inr (.inr (fF a i)))))), (h0, .inr (2, [.ref q1, .int 0]))] ++ wsL cs a b i)) (w1 := [(q3, .inl (cs 0, 7, .inl (fun _ => 0))), (q2, .inr (7, [.ref q3, .int 0, .int 0, .int 0, .int 0, .int 0, .int 0]))]) hP hD hk1 hFc hP1 hD1
      have hP : va_P (dC, dI) vwCl ([(q3, .inl (cs 0, 7, .inl (fun _ => 0))), (q2, .inr (7, [.ref q3, .int 0, .int 0, .int 0, .int 0, .int 0, .int 0])), (q1, .inl (cs 6, 40, .inr (.inr (.inr (.inr (fF a i)))))), (h0, .inr (2, [.ref q1, .int 0]))] ++ wsL cs a b i) H1 := hP
      have hD : va_D (va_A [(h0, .inr (2, [.null, .int 0]))] s.heap.size) ([(q3, .inl (cs 0, 7, .inl (fun _ => 0))), (q2, .inr (7, [.ref q3, .int 0, .int 0, .int 0, .int 0, .int 0, .int 0])), (q1, .inl (cs 6, 40, .inr (.inr (.inr (.inr (fF a i)))))), (h0, .inr (2, [.ref q1, .int 0]))] ++ wsL cs a b i) := hD
      refine va_astq (r := (RX7, TX7, 7)) hx hb hK hP hD hS 2 6 1 7 rfl rfl rfl rfl (show vp_in (nI i) 40 from vp_in_nI (by omega) (by decide)) dX2_init_33 (fun H locs hP hD hS => ?_)
      rw [nI_clamp (by omega)] at hP hD
      have hP : va_P (dC, dI) vwCl ([(q3, .inl (cs 0, 7, .inl (fun _ => 0))), (q2, .inr (7, [.ref q3, .int 0, .int 0, .int 0, .int 0, .int 0, .int 0])), (q1, .inl (cs 6, 40, .inr (.inr (.inr (.inr (va_up (fF a i) i (some q2))))))), (h0, .inr (2, [.ref q1, .int 0]))] ++ wsL cs a b i) H := hP
      have hD : va_D (va_A [(h0, .inr (2, [.null, .int 0]))] s.heap.size) ([(q3, .inl (cs 0, 7, .inl (fun _ => 0))), (q2, .inr (7, [.ref q3, .int 0, .int 0, .int 0, .int 0, .int 0, .int 0])), (q1, .inl (cs 6, 40, .inr (.inr (.inr (.inr (va_up (fF a i) i (some q2))))))), (h0, .inr (2, [.ref q1, .int 0]))] ++ wsL cs a b i) := hD
      rw [fF_up] at hP hD
      have hP := pm_P (pm_mid [(q3, .inl (cs 0, 7, .inl (fun _ => 0))), (q2, .inr (7, [.ref q3, .int 0, .int 0, .int 0, .int 0, .int 0, .int 0]))] [(q1, .inl (cs 6, 40, .inr (.inr (.inr (.inr (fF (fun j => if j = i then q2 else a j) (i + 1))))))), (h0, .inr (2, [.ref q1, .int 0]))] (wsL cs a b i)) hP
      have hD := pm_D (pm_mid [(q3, .inl (cs 0, 7, .inl (fun _ => 0))), (q2, .inr (7, [.ref q3, .int 0, .int 0, .int 0, .int 0, .int 0, .int 0]))] [(q1, .inl (cs 6, 40, .inr (.inr (.inr (.inr (fF (fun j => if j = i then q2 else a j) (i + 1))))))), (h0, .inr (2, [.ref q1, .int 0]))] (wsL cs a b i)) hD
      have hw2 : [(q3, .inl (cs 0, 7, .inl (fun _ => 0))), (q2, .inr (7, [.ref q3, .int 0, .int 0, .int 0, .int 0, .int 0, .int 0]))] ++ wsL cs a b i = wsL cs (fun j => if j = i then q2 else a j) (fun j => if j = i then q3 else b j) (i + 1) := by
        rw [wsL_congr (a1 := (fun j => if j = i then q2 else a j)) (b1 := (fun j => if j = i then q3 else b j)) (fun j hj => ⟨(if_neg (by omega)).symm, (if_neg (by omega)).symm⟩)]
        show _ = [saP cs (fun j => if j = i then q3 else b j) i, saC (fun j => if j = i then q3 else b j) (fun j => if j = i then q2 else a j) i] ++ wsL cs (fun j => if j = i then q2 else a j) (fun j => if j = i then q3 else b j) i
        unfold saP saC
        simp only [if_true]
      rw [hw2] at hP hD
      refine lv_iinc (v := nI (i + 1)) (lv' := [(1, .int (nI (i + 1))), (0, .ref h0)]) hx hb dX2_init_34 hl (k := 0) rfl (nI_add i 1) (by decide) rfl (fun ls hl => ?_)
      refine lv_goto (tgt := 15) hx hb dX2_init_37 (by decide) ?_
      refine W.widen (k := 1 + 2 * (i + 1)) (n := 40 + 14 * (i + 1)) (by omega) (by omega) ?_
      exact ih (i + 1) (by omega) _ _ H locs ls hP hD hS hl
  exact step 40 0 rfl (fun _ => 0) (fun _ => 0) _ _ _ hP hD hS hl
theorem wX_all {cs : Nat → ClassId} {L : List Nat} {adL : Nat → Nat} : wR 157 (adX L adL) (EX cs (adX L adL)) mu0X = wR 77 (adX L adL) (EX cs (adX L adL)) mu0X ++ wR 80 (fun k => adL (1 + k)) (EL cs adL) (fun _ _ => 0) := by
  have e1 : ∀ j, 77 ≤ j → adX L adL j = adL (j - 76) := fun j hj => by unfold adX; rw [if_neg (by omega)]
  have e : wR 80 (fun k => adX L adL (77 + k)) (fun k => EX cs (adX L adL) (77 + k)) (fun k => mu0X (77 + k)) = wR 80 (fun k => adL (1 + k)) (EL cs adL) (fun _ _ => 0) := by
    unfold wR
    refine List.map_congr_left (fun k hk => ?_)
    have hk := List.mem_range.mp hk
    have e2 : mu0X (77 + k) = fun _ => 0 := by unfold mu0X; rw [if_neg (by omega), if_neg (by omega)]
    refine Prod.ext ?_ ?_
    · show adX L adL (77 + k) = adL (1 + k)
      rw [e1 _ (by omega), show 77 + k - 76 = 1 + k by omega]
    · show EX cs (adX L adL) (77 + k) (mu0X (77 + k)) = EL cs adL k (fun _ => 0)
      rw [e2]
      unfold EL
      by_cases h : k < 40
      · rw [EX_sale cs _ _ _ (by omega) (by omega), if_pos h, e1 _ (by omega), show 77 + k + 40 - 76 = 41 + k by omega]
      · rw [EX_spurses cs _ _ _ (by omega) (by omega), if_neg h]
  rw [show (157 : Nat) = 77 + 80 from rfl, wR_split, e]

