theorem fa_nil {P : Nat × va_E → Prop} : ∀ q : Nat × va_E, q ∈ ([] : va_W) → P q := fun q h => by cases h
theorem fa_cons {P : Nat × va_E → Prop} {a : Nat × va_E} {l : va_W} (h : P a) (h2 : ∀ q : Nat × va_E, q ∈ l → P q) : ∀ q : Nat × va_E, q ∈ a :: l → P q := fun q hq => by
  rcases List.mem_cons.mp hq with e | e
  · rw [e]; exact h
  · exact h2 q e
theorem adX_lt {L : List Nat} {q : Nat → Nat} {k : Nat} (h : k < 77) : adX L q k = L.getD k 0 := if_pos h
theorem at_reQ {D : va_G} {cl : List vw_C} {H : Heap} {a n : Nat} {cA : ClassId} {f g : Nat → Option Nat} (h : va_at D cl (a, .inl (cA, n, .inr (.inr (.inr (.inr f))))) H) (hfg : ∀ j, j < n → f j = g j) : va_at D cl (a, .inl (cA, n, .inr (.inr (.inr (.inr g))))) H := by
  have hP : va_P D cl [(a, .inl (cA, n, .inr (.inr (.inr (.inr f)))))] H := vaP_iff.mpr (fun q hq => by
    rw [List.mem_singleton.mp hq]
    exact h)
  have hD : va_D (fun _ => True) [(a, .inl (cA, n, .inr (.inr (.inr (.inr f)))))] := vaD_iff.mpr ⟨by simp, fun _ _ => trivial⟩
  exact vaP_iff.mp (va_reQ1 g hP hD hfg).1 _ (List.Mem.head _)
theorem vaD_adr {A : Nat → Prop} {ws : va_W} : va_D A ws ↔ (ws.map Prod.fst).Nodup ∧ ∀ a ∈ ws.map Prod.fst, A a := by
  rw [vaD_iff]
  constructor
  · rintro ⟨h1, h2⟩
    refine ⟨h1, fun a ha => ?_⟩
    obtain ⟨q, hq, rfl⟩ := List.mem_map.mp ha
    exact h2 q hq
  · rintro ⟨h1, h2⟩
    exact ⟨h1, fun q hq => h2 q.1 (List.mem_map.mpr ⟨q, hq, rfl⟩)⟩
theorem cX_0 {cs : Nat → ClassId} {L : List Nat} {q : Nat → Nat} : ((adX L q 0, EX cs (adX L q) 0 (mu0X 0)) : Nat × va_E) = (L.getD 0 0, .inr (11, [.ref (L.getD 1 0), .ref (L.getD 2 0), .ref (L.getD 3 0), .ref (L.getD 4 0), .ref (L.getD 31 0), .ref (L.getD 6 0), .ref (L.getD 32 0), .ref (L.getD 33 0), .ref (L.getD 7 0), .int 0, .int 0])) := rfl
theorem cX_1 {cs : Nat → ClassId} {L : List Nat} {q : Nat → Nat} : ((adX L q 1, EX cs (adX L q) 1 (mu0X 1)) : Nat × va_E) = (L.getD 1 0, .inl (cs 2, 6, .inr (.inr (.inr (.inr (fun j => some (adX L q (8 + j)))))))) := rfl
theorem cX_2 {cs : Nat → ClassId} {L : List Nat} {q : Nat → Nat} : ((adX L q 2, EX cs (adX L q) 2 (mu0X 2)) : Nat × va_E) = (L.getD 2 0, .inl (cs 3, 4, .inr (.inr (.inr (.inr (fun j => some (adX L q (14 + j)))))))) := rfl
theorem cX_3 {cs : Nat → ClassId} {L : List Nat} {q : Nat → Nat} : ((adX L q 3, EX cs (adX L q) 3 (mu0X 3)) : Nat × va_E) = (L.getD 3 0, .inl (cs 4, 3, .inr (.inr (.inr (.inr (fun j => some (adX L q (18 + j)))))))) := rfl
theorem cX_4 {cs : Nat → ClassId} {L : List Nat} {q : Nat → Nat} : ((adX L q 4, EX cs (adX L q) 4 (mu0X 4)) : Nat × va_E) = (L.getD 4 0, .inr (10, [.ref (L.getD 34 0), .ref (L.getD 35 0), .ref (L.getD 36 0), .ref (L.getD 5 0), .ref (L.getD 37 0), .ref (L.getD 38 0), .int 0, .int 0])) := rfl
theorem cX_5 {cs : Nat → ClassId} {L : List Nat} {q : Nat → Nat} : ((adX L q 5, EX cs (adX L q) 5 (mu0X 5)) : Nat × va_E) = (L.getD 5 0, .inr (8, [.ref (L.getD 46 0), .ref (L.getD 47 0), .int 0, .int 0, .int 0, .int 0])) := rfl
theorem cX_6 {cs : Nat → ClassId} {L : List Nat} {q : Nat → Nat} : ((adX L q 6, EX cs (adX L q) 6 (mu0X 6)) : Nat × va_E) = (L.getD 6 0, .inr (2, [.ref (L.getD 39 0), .int 0])) := rfl
theorem cX_7 {cs : Nat → ClassId} {L : List Nat} {q : Nat → Nat} : ((adX L q 7, EX cs (adX L q) 7 (mu0X 7)) : Nat × va_E) = (L.getD 7 0, .inl (cs 0, 6, .inl (fun _ => 0))) := rfl
theorem cX_8 {cs : Nat → ClassId} {L : List Nat} {q : Nat → Nat} : ((adX L q 8, EX cs (adX L q) 8 (mu0X 8)) : Nat × va_E) = (L.getD 8 0, .inr (6, [.ref (L.getD 21 0), .int (-1)])) := rfl
theorem cX_9 {cs : Nat → ClassId} {L : List Nat} {q : Nat → Nat} : ((adX L q 9, EX cs (adX L q) 9 (mu0X 9)) : Nat × va_E) = (L.getD 9 0, .inr (6, [.ref (L.getD 22 0), .int (-1)])) := rfl
theorem cX_10 {cs : Nat → ClassId} {L : List Nat} {q : Nat → Nat} : ((adX L q 10, EX cs (adX L q) 10 (mu0X 10)) : Nat × va_E) = (L.getD 10 0, .inr (6, [.ref (L.getD 23 0), .int (-1)])) := rfl
theorem cX_11 {cs : Nat → ClassId} {L : List Nat} {q : Nat → Nat} : ((adX L q 11, EX cs (adX L q) 11 (mu0X 11)) : Nat × va_E) = (L.getD 11 0, .inr (6, [.ref (L.getD 24 0), .int (-1)])) := rfl
theorem cX_12 {cs : Nat → ClassId} {L : List Nat} {q : Nat → Nat} : ((adX L q 12, EX cs (adX L q) 12 (mu0X 12)) : Nat × va_E) = (L.getD 12 0, .inr (6, [.ref (L.getD 25 0), .int (-1)])) := rfl
theorem cX_13 {cs : Nat → ClassId} {L : List Nat} {q : Nat → Nat} : ((adX L q 13, EX cs (adX L q) 13 (mu0X 13)) : Nat × va_E) = (L.getD 13 0, .inr (6, [.ref (L.getD 26 0), .int (-1)])) := rfl
theorem cX_14 {cs : Nat → ClassId} {L : List Nat} {q : Nat → Nat} : ((adX L q 14, EX cs (adX L q) 14 (mu0X 14)) : Nat × va_E) = (L.getD 14 0, .inr (9, [.ref (L.getD 27 0), .int (-1)])) := rfl
theorem cX_15 {cs : Nat → ClassId} {L : List Nat} {q : Nat → Nat} : ((adX L q 15, EX cs (adX L q) 15 (mu0X 15)) : Nat × va_E) = (L.getD 15 0, .inr (9, [.ref (L.getD 28 0), .int (-1)])) := rfl
theorem cX_16 {cs : Nat → ClassId} {L : List Nat} {q : Nat → Nat} : ((adX L q 16, EX cs (adX L q) 16 (mu0X 16)) : Nat × va_E) = (L.getD 16 0, .inr (9, [.ref (L.getD 29 0), .int (-1)])) := rfl
theorem cX_17 {cs : Nat → ClassId} {L : List Nat} {q : Nat → Nat} : ((adX L q 17, EX cs (adX L q) 17 (mu0X 17)) : Nat × va_E) = (L.getD 17 0, .inr (9, [.ref (L.getD 30 0), .int (-1)])) := rfl
theorem cX_18 {cs : Nat → ClassId} {L : List Nat} {q : Nat → Nat} : ((adX L q 18, EX cs (adX L q) 18 (mu0X 18)) : Nat × va_E) = (L.getD 18 0, .inr (8, [.ref (L.getD 40 0), .ref (L.getD 43 0), .int 0, .int 0, .int 0, .int 0])) := rfl
theorem cX_19 {cs : Nat → ClassId} {L : List Nat} {q : Nat → Nat} : ((adX L q 19, EX cs (adX L q) 19 (mu0X 19)) : Nat × va_E) = (L.getD 19 0, .inr (8, [.ref (L.getD 41 0), .ref (L.getD 44 0), .int 0, .int 0, .int 0, .int 0])) := rfl
theorem cX_20 {cs : Nat → ClassId} {L : List Nat} {q : Nat → Nat} : ((adX L q 20, EX cs (adX L q) 20 (mu0X 20)) : Nat × va_E) = (L.getD 20 0, .inr (8, [.ref (L.getD 42 0), .ref (L.getD 45 0), .int 0, .int 0, .int 0, .int 0])) := rfl
theorem cX_21 {cs : Nat → ClassId} {L : List Nat} {q : Nat → Nat} : ((adX L q 21, EX cs (adX L q) 21 (mu0X 21)) : Nat × va_E) = (L.getD 21 0, .inl (cs 0, 40, .inl (fun _ => 0))) := rfl
theorem cX_22 {cs : Nat → ClassId} {L : List Nat} {q : Nat → Nat} : ((adX L q 22, EX cs (adX L q) 22 (mu0X 22)) : Nat × va_E) = (L.getD 22 0, .inl (cs 0, 40, .inl (fun _ => 0))) := rfl
theorem cX_23 {cs : Nat → ClassId} {L : List Nat} {q : Nat → Nat} : ((adX L q 23, EX cs (adX L q) 23 (mu0X 23)) : Nat × va_E) = (L.getD 23 0, .inl (cs 0, 40, .inl (fun _ => 0))) := rfl
theorem cX_24 {cs : Nat → ClassId} {L : List Nat} {q : Nat → Nat} : ((adX L q 24, EX cs (adX L q) 24 (mu0X 24)) : Nat × va_E) = (L.getD 24 0, .inl (cs 0, 40, .inl (fun _ => 0))) := rfl
theorem cX_25 {cs : Nat → ClassId} {L : List Nat} {q : Nat → Nat} : ((adX L q 25, EX cs (adX L q) 25 (mu0X 25)) : Nat × va_E) = (L.getD 25 0, .inl (cs 0, 40, .inl (fun _ => 0))) := rfl
theorem cX_26 {cs : Nat → ClassId} {L : List Nat} {q : Nat → Nat} : ((adX L q 26, EX cs (adX L q) 26 (mu0X 26)) : Nat × va_E) = (L.getD 26 0, .inl (cs 0, 40, .inl (fun _ => 0))) := rfl
theorem cX_27 {cs : Nat → ClassId} {L : List Nat} {q : Nat → Nat} : ((adX L q 27, EX cs (adX L q) 27 (mu0X 27)) : Nat × va_E) = (L.getD 27 0, .inl (cs 1, 80, .inl (fun _ => 0))) := rfl
theorem cX_28 {cs : Nat → ClassId} {L : List Nat} {q : Nat → Nat} : ((adX L q 28, EX cs (adX L q) 28 (mu0X 28)) : Nat × va_E) = (L.getD 28 0, .inl (cs 1, 80, .inl (fun _ => 0))) := rfl
theorem cX_29 {cs : Nat → ClassId} {L : List Nat} {q : Nat → Nat} : ((adX L q 29, EX cs (adX L q) 29 (mu0X 29)) : Nat × va_E) = (L.getD 29 0, .inl (cs 1, 80, .inl (fun _ => 0))) := rfl
theorem cX_30 {cs : Nat → ClassId} {L : List Nat} {q : Nat → Nat} : ((adX L q 30, EX cs (adX L q) 30 (mu0X 30)) : Nat × va_E) = (L.getD 30 0, .inl (cs 1, 80, .inl (fun _ => 0))) := rfl
theorem cX_31 {cs : Nat → ClassId} {L : List Nat} {q : Nat → Nat} : ((adX L q 31, EX cs (adX L q) 31 (mu0X 31)) : Nat × va_E) = (L.getD 31 0, .inr (4, [.ref (L.getD 48 0), .ref (L.getD 49 0), .ref (L.getD 50 0), .ref (L.getD 51 0), .int 0, .int 0])) := rfl
theorem cX_32 {cs : Nat → ClassId} {L : List Nat} {q : Nat → Nat} : ((adX L q 32, EX cs (adX L q) 32 (mu0X 32)) : Nat × va_E) = (L.getD 32 0, .inr (5, [.ref (L.getD 52 0), .ref (L.getD 53 0), .ref (L.getD 54 0), .ref (L.getD 55 0), .ref (L.getD 56 0), .int 0, .int 0, .int 0, .int 0, .int 0, .int 0, .int 0, .int 0, .int 0, .int 0])) := rfl
theorem cX_33 {cs : Nat → ClassId} {L : List Nat} {q : Nat → Nat} : ((adX L q 33, EX cs (adX L q) 33 (mu0X 33)) : Nat × va_E) = (L.getD 33 0, .inr (1, [.ref (L.getD 59 0), .ref (L.getD 60 0), .int 0, .int 0, .int 0])) := rfl
theorem cX_34 {cs : Nat → ClassId} {L : List Nat} {q : Nat → Nat} : ((adX L q 34, EX cs (adX L q) 34 (mu0X 34)) : Nat × va_E) = (L.getD 34 0, .inl (cs 0, 7, .inl (fun _ => 0))) := rfl
theorem cX_35 {cs : Nat → ClassId} {L : List Nat} {q : Nat → Nat} : ((adX L q 35, EX cs (adX L q) 35 (mu0X 35)) : Nat × va_E) = (L.getD 35 0, .inl (cs 0, 12, .inl (fun _ => 0))) := rfl
theorem cX_36 {cs : Nat → ClassId} {L : List Nat} {q : Nat → Nat} : ((adX L q 36, EX cs (adX L q) 36 (mu0X 36)) : Nat × va_E) = (L.getD 36 0, .inl (cs 0, 12, .inl (fun _ => 0))) := rfl
theorem cX_37 {cs : Nat → ClassId} {L : List Nat} {q : Nat → Nat} : ((adX L q 37, EX cs (adX L q) 37 (mu0X 37)) : Nat × va_E) = (L.getD 37 0, .inl (cs 0, 7, .inl (fun _ => 0))) := rfl
theorem cX_38 {cs : Nat → ClassId} {L : List Nat} {q : Nat → Nat} : ((adX L q 38, EX cs (adX L q) 38 (mu0X 38)) : Nat × va_E) = (L.getD 38 0, .inl (cs 0, 7, .inl (fun _ => 0))) := rfl
theorem cX_39 {cs : Nat → ClassId} {L : List Nat} {q : Nat → Nat} : ((adX L q 39, EX cs (adX L q) 39 (mu0X 39)) : Nat × va_E) = (L.getD 39 0, .inl (cs 6, 40, .inr (.inr (.inr (.inr (fun j => some (adX L q (77 + j)))))))) := rfl
theorem cX_40 {cs : Nat → ClassId} {L : List Nat} {q : Nat → Nat} : ((adX L q 40, EX cs (adX L q) 40 (mu0X 40)) : Nat × va_E) = (L.getD 40 0, .inl (cs 0, 7, .inl (fun _ => 0))) := rfl
theorem cX_41 {cs : Nat → ClassId} {L : List Nat} {q : Nat → Nat} : ((adX L q 41, EX cs (adX L q) 41 (mu0X 41)) : Nat × va_E) = (L.getD 41 0, .inl (cs 0, 7, .inl (fun _ => 0))) := rfl
theorem cX_42 {cs : Nat → ClassId} {L : List Nat} {q : Nat → Nat} : ((adX L q 42, EX cs (adX L q) 42 (mu0X 42)) : Nat × va_E) = (L.getD 42 0, .inl (cs 0, 7, .inl (fun _ => 0))) := rfl
theorem cX_43 {cs : Nat → ClassId} {L : List Nat} {q : Nat → Nat} : ((adX L q 43, EX cs (adX L q) 43 (mu0X 43)) : Nat × va_E) = (L.getD 43 0, .inl (cs 5, 4, .inr (.inr (.inr (.inr (fun j => some (adX L q (65 + j)))))))) := rfl
theorem cX_44 {cs : Nat → ClassId} {L : List Nat} {q : Nat → Nat} : ((adX L q 44, EX cs (adX L q) 44 (mu0X 44)) : Nat × va_E) = (L.getD 44 0, .inl (cs 5, 4, .inr (.inr (.inr (.inr (fun j => some (adX L q (69 + j)))))))) := rfl
theorem cX_45 {cs : Nat → ClassId} {L : List Nat} {q : Nat → Nat} : ((adX L q 45, EX cs (adX L q) 45 (mu0X 45)) : Nat × va_E) = (L.getD 45 0, .inl (cs 5, 4, .inr (.inr (.inr (.inr (fun j => some (adX L q (73 + j)))))))) := rfl
theorem cX_46 {cs : Nat → ClassId} {L : List Nat} {q : Nat → Nat} : ((adX L q 46, EX cs (adX L q) 46 (mu0X 46)) : Nat × va_E) = (L.getD 46 0, .inl (cs 0, 7, .inl (fun _ => 0))) := rfl
theorem cX_47 {cs : Nat → ClassId} {L : List Nat} {q : Nat → Nat} : ((adX L q 47, EX cs (adX L q) 47 (mu0X 47)) : Nat × va_E) = (L.getD 47 0, .inl (cs 5, 4, .inr (.inr (.inr (.inr (fun j => some (adX L q (61 + j)))))))) := rfl
theorem cX_48 {cs : Nat → ClassId} {L : List Nat} {q : Nat → Nat} : ((adX L q 48, EX cs (adX L q) 48 (mu0X 48)) : Nat × va_E) = (L.getD 48 0, .inl (cs 0, 7, .inl (fun _ => 0))) := rfl
theorem cX_49 {cs : Nat → ClassId} {L : List Nat} {q : Nat → Nat} : ((adX L q 49, EX cs (adX L q) 49 (mu0X 49)) : Nat × va_E) = (L.getD 49 0, .inl (cs 0, 7, .inl (fun _ => 0))) := rfl
theorem cX_50 {cs : Nat → ClassId} {L : List Nat} {q : Nat → Nat} : ((adX L q 50, EX cs (adX L q) 50 (mu0X 50)) : Nat × va_E) = (L.getD 50 0, .inl (cs 0, 12, .inl (fun _ => 0))) := rfl
theorem cX_51 {cs : Nat → ClassId} {L : List Nat} {q : Nat → Nat} : ((adX L q 51, EX cs (adX L q) 51 (mu0X 51)) : Nat × va_E) = (L.getD 51 0, .inl (cs 0, 12, .inl (fun _ => 0))) := rfl
theorem cX_52 {cs : Nat → ClassId} {L : List Nat} {q : Nat → Nat} : ((adX L q 52, EX cs (adX L q) 52 (mu0X 52)) : Nat × va_E) = (L.getD 52 0, .inl (cs 0, 7, .inl (fun _ => 0))) := rfl
theorem cX_53 {cs : Nat → ClassId} {L : List Nat} {q : Nat → Nat} : ((adX L q 53, EX cs (adX L q) 53 (mu0X 53)) : Nat × va_E) = (L.getD 53 0, .inl (cs 0, 7, .inl (fun _ => 0))) := rfl
theorem cX_54 {cs : Nat → ClassId} {L : List Nat} {q : Nat → Nat} : ((adX L q 54, EX cs (adX L q) 54 (mu0X 54)) : Nat × va_E) = (L.getD 54 0, .inl (cs 0, 7, .inl (fun _ => 0))) := rfl
theorem cX_55 {cs : Nat → ClassId} {L : List Nat} {q : Nat → Nat} : ((adX L q 55, EX cs (adX L q) 55 (mu0X 55)) : Nat × va_E) = (L.getD 55 0, .inr (0, [.ref (L.getD 57 0), .int 0, .int 0, .int 0])) := rfl
theorem cX_56 {cs : Nat → ClassId} {L : List Nat} {q : Nat → Nat} : ((adX L q 56, EX cs (adX L q) 56 (mu0X 56)) : Nat × va_E) = (L.getD 56 0, .inr (0, [.ref (L.getD 58 0), .int 0, .int 0, .int 0])) := rfl
theorem cX_57 {cs : Nat → ClassId} {L : List Nat} {q : Nat → Nat} : ((adX L q 57, EX cs (adX L q) 57 (mu0X 57)) : Nat × va_E) = (L.getD 57 0, .inl (cs 0, 7, .inl (fun _ => 0))) := rfl
theorem cX_58 {cs : Nat → ClassId} {L : List Nat} {q : Nat → Nat} : ((adX L q 58, EX cs (adX L q) 58 (mu0X 58)) : Nat × va_E) = (L.getD 58 0, .inl (cs 0, 7, .inl (fun _ => 0))) := rfl
theorem cX_59 {cs : Nat → ClassId} {L : List Nat} {q : Nat → Nat} : ((adX L q 59, EX cs (adX L q) 59 (mu0X 59)) : Nat × va_E) = (L.getD 59 0, .inl (cs 0, 7, .inl (fun _ => 0))) := rfl
theorem cX_60 {cs : Nat → ClassId} {L : List Nat} {q : Nat → Nat} : ((adX L q 60, EX cs (adX L q) 60 (mu0X 60)) : Nat × va_E) = (L.getD 60 0, .inl (cs 0, 7, .inl (fun _ => 0))) := rfl
theorem cX_61 {cs : Nat → ClassId} {L : List Nat} {q : Nat → Nat} : ((adX L q 61, EX cs (adX L q) 61 (mu0X 61)) : Nat × va_E) = (L.getD 61 0, .inr (3, [.int 0, .int 0, .int 0, .int 0, .int 0, .int 0, .int 0, .int 0, .int 0, .int 0])) := rfl
theorem cX_62 {cs : Nat → ClassId} {L : List Nat} {q : Nat → Nat} : ((adX L q 62, EX cs (adX L q) 62 (mu0X 62)) : Nat × va_E) = (L.getD 62 0, .inr (3, [.int 0, .int 0, .int 0, .int 0, .int 0, .int 0, .int 0, .int 0, .int 0, .int 0])) := rfl
theorem cX_63 {cs : Nat → ClassId} {L : List Nat} {q : Nat → Nat} : ((adX L q 63, EX cs (adX L q) 63 (mu0X 63)) : Nat × va_E) = (L.getD 63 0, .inr (3, [.int 0, .int 0, .int 0, .int 0, .int 0, .int 0, .int 0, .int 0, .int 0, .int 0])) := rfl
theorem cX_64 {cs : Nat → ClassId} {L : List Nat} {q : Nat → Nat} : ((adX L q 64, EX cs (adX L q) 64 (mu0X 64)) : Nat × va_E) = (L.getD 64 0, .inr (3, [.int 0, .int 0, .int 0, .int 0, .int 0, .int 0, .int 0, .int 0, .int 0, .int 0])) := rfl
theorem cX_65 {cs : Nat → ClassId} {L : List Nat} {q : Nat → Nat} : ((adX L q 65, EX cs (adX L q) 65 (mu0X 65)) : Nat × va_E) = (L.getD 65 0, .inr (3, [.int 0, .int 0, .int 0, .int 0, .int 0, .int 0, .int 0, .int 0, .int 0, .int 0])) := rfl
theorem cX_66 {cs : Nat → ClassId} {L : List Nat} {q : Nat → Nat} : ((adX L q 66, EX cs (adX L q) 66 (mu0X 66)) : Nat × va_E) = (L.getD 66 0, .inr (3, [.int 0, .int 0, .int 0, .int 0, .int 0, .int 0, .int 0, .int 0, .int 0, .int 0])) := rfl
theorem cX_67 {cs : Nat → ClassId} {L : List Nat} {q : Nat → Nat} : ((adX L q 67, EX cs (adX L q) 67 (mu0X 67)) : Nat × va_E) = (L.getD 67 0, .inr (3, [.int 0, .int 0, .int 0, .int 0, .int 0, .int 0, .int 0, .int 0, .int 0, .int 0])) := rfl
theorem cX_68 {cs : Nat → ClassId} {L : List Nat} {q : Nat → Nat} : ((adX L q 68, EX cs (adX L q) 68 (mu0X 68)) : Nat × va_E) = (L.getD 68 0, .inr (3, [.int 0, .int 0, .int 0, .int 0, .int 0, .int 0, .int 0, .int 0, .int 0, .int 0])) := rfl
theorem cX_69 {cs : Nat → ClassId} {L : List Nat} {q : Nat → Nat} : ((adX L q 69, EX cs (adX L q) 69 (mu0X 69)) : Nat × va_E) = (L.getD 69 0, .inr (3, [.int 0, .int 0, .int 0, .int 0, .int 0, .int 0, .int 0, .int 0, .int 0, .int 0])) := rfl
theorem cX_70 {cs : Nat → ClassId} {L : List Nat} {q : Nat → Nat} : ((adX L q 70, EX cs (adX L q) 70 (mu0X 70)) : Nat × va_E) = (L.getD 70 0, .inr (3, [.int 0, .int 0, .int 0, .int 0, .int 0, .int 0, .int 0, .int 0, .int 0, .int 0])) := rfl
theorem cX_71 {cs : Nat → ClassId} {L : List Nat} {q : Nat → Nat} : ((adX L q 71, EX cs (adX L q) 71 (mu0X 71)) : Nat × va_E) = (L.getD 71 0, .inr (3, [.int 0, .int 0, .int 0, .int 0, .int 0, .int 0, .int 0, .int 0, .int 0, .int 0])) := rfl
theorem cX_72 {cs : Nat → ClassId} {L : List Nat} {q : Nat → Nat} : ((adX L q 72, EX cs (adX L q) 72 (mu0X 72)) : Nat × va_E) = (L.getD 72 0, .inr (3, [.int 0, .int 0, .int 0, .int 0, .int 0, .int 0, .int 0, .int 0, .int 0, .int 0])) := rfl
theorem cX_73 {cs : Nat → ClassId} {L : List Nat} {q : Nat → Nat} : ((adX L q 73, EX cs (adX L q) 73 (mu0X 73)) : Nat × va_E) = (L.getD 73 0, .inr (3, [.int 0, .int 0, .int 0, .int 0, .int 0, .int 0, .int 0, .int 0, .int 0, .int 0])) := rfl
theorem cX_74 {cs : Nat → ClassId} {L : List Nat} {q : Nat → Nat} : ((adX L q 74, EX cs (adX L q) 74 (mu0X 74)) : Nat × va_E) = (L.getD 74 0, .inr (3, [.int 0, .int 0, .int 0, .int 0, .int 0, .int 0, .int 0, .int 0, .int 0, .int 0])) := rfl
theorem cX_75 {cs : Nat → ClassId} {L : List Nat} {q : Nat → Nat} : ((adX L q 75, EX cs (adX L q) 75 (mu0X 75)) : Nat × va_E) = (L.getD 75 0, .inr (3, [.int 0, .int 0, .int 0, .int 0, .int 0, .int 0, .int 0, .int 0, .int 0, .int 0])) := rfl
theorem cX_76 {cs : Nat → ClassId} {L : List Nat} {q : Nat → Nat} : ((adX L q 76, EX cs (adX L q) 76 (mu0X 76)) : Nat × va_E) = (L.getD 76 0, .inr (3, [.int 0, .int 0, .int 0, .int 0, .int 0, .int 0, .int 0, .int 0, .int 0, .int 0])) := rfl
theorem cX_cons {α : Type} {a b : α} {l m : List α} (h : a = b) (h2 : l = m) : a :: l = b :: m := by rw [h, h2]
theorem wR77 {ad : Nat → Nat} {E : Nat → (Nat → Int32) → va_E} {mu : Nat → Nat → Int32} : wR 77 ad E mu = [(ad 0, E 0 (mu 0)), (ad 1, E 1 (mu 1)), (ad 2, E 2 (mu 2)), (ad 3, E 3 (mu 3)), (ad 4, E 4 (mu 4)), (ad 5, E 5 (mu 5)), (ad 6, E 6 (mu 6)), (ad 7, E 7 (mu 7)), (ad 8, E 8 (mu 8)), (ad 9, E 9 (mu 9)), (ad 10, E 10 (mu 10)), (ad 11, E 11 (mu 11)), (ad 12, E 12 (mu 12)), (ad 13, E 13 (mu 13)), (ad 14, E 14 (mu 14)), (ad 15, E 15 (mu 15)), (ad 16, E 16 (mu 16)), (ad 17, E 17 (mu 17)), (ad 18, E 18 (mu 18)), (ad 19, E 19 (mu 19)), (ad 20, E 20 (mu 20)), (ad 21, E 21 (mu 21)), (ad 22, E 22 (mu 22)), (ad 23, E 23 (mu 23)), (ad 24, E 24 (mu 24)), (ad 25, E 25 (mu 25)), (ad 26, E 26 (mu 26)), (ad 27, E 27 (mu 27)), (ad 28, E 28 (mu 28)), (ad 29, E 29 (mu 29)), (ad 30, E 30 (mu 30)), (ad 31, E 31 (mu 31)), (ad 32, E 32 (mu 32)), (ad 33, E 33 (mu 33)), (ad 34, E 34 (mu 34)), (ad 35, E 35 (mu 35)), (ad 36, E 36 (mu 36)), (ad 37, E 37 (mu 37)), (ad 38, E 38 (mu 38)), (ad 39, E 39 (mu 39)), (ad 40, E 40 (mu 40)), (ad 41, E 41 (mu 41)), (ad 42, E 42 (mu 42)), (ad 43, E 43 (mu 43)), (ad 44, E 44 (mu 44)), (ad 45, E 45 (mu 45)), (ad 46, E 46 (mu 46)), (ad 47, E 47 (mu 47)), (ad 48, E 48 (mu 48)), (ad 49, E 49 (mu 49)), (ad 50, E 50 (mu 50)), (ad 51, E 51 (mu 51)), (ad 52, E 52 (mu 52)), (ad 53, E 53 (mu 53)), (ad 54, E 54 (mu 54)), (ad 55, E 55 (mu 55)), (ad 56, E 56 (mu 56)), (ad 57, E 57 (mu 57)), (ad 58, E 58 (mu 58)), (ad 59, E 59 (mu 59)), (ad 60, E 60 (mu 60)), (ad 61, E 61 (mu 61)), (ad 62, E 62 (mu 62)), (ad 63, E 63 (mu 63)), (ad 64, E 64 (mu 64)), (ad 65, E 65 (mu 65)), (ad 66, E 66 (mu 66)), (ad 67, E 67 (mu 67)), (ad 68, E 68 (mu 68)), (ad 69, E 69 (mu 69)), (ad 70, E 70 (mu 70)), (ad 71, E 71 (mu 71)), (ad 72, E 72 (mu 72)), (ad 73, E 73 (mu 73)), (ad 74, E 74 (mu 74)), (ad 75, E 75 (mu 75)), (ad 76, E 76 (mu 76))] := rfl
set_option maxRecDepth 20000 in
theorem wX77 {cs : Nat → ClassId} {L : List Nat} {q : Nat → Nat} : wR 77 (adX L q) (EX cs (adX L q)) mu0X = [(L.getD 0 0, .inr (11, [.ref (L.getD 1 0), .ref (L.getD 2 0), .ref (L.getD 3 0), .ref (L.getD 4 0), .ref (L.getD 31 0), .ref (L.getD 6 0), .ref (L.getD 32 0), .ref (L.getD 33 0), .ref (L.getD 7 0), .int 0, .int 0])), (L.getD 1 0, .inl (cs 2, 6, .inr (.inr (.inr (.inr (fun j => some (adX L q (8 + j)))))))), (L.getD 2 0, .inl (cs 3, 4, .inr (.inr (.inr (.inr (fun j => some (adX L q (14 + j)))))))), (L.getD 3 0, .inl (cs 4, 3, .inr (.inr (.inr (.inr (fun j => some (adX L q (18 + j)))))))), (L.getD 4 0, .inr (10, [.ref (L.getD 34 0), .ref (L.getD 35 0), .ref (L.getD 36 0), .ref (L.getD 5 0), .ref (L.getD 37 0), .ref (L.getD 38 0), .int 0, .int 0])), (L.getD 5 0, .inr (8, [.ref (L.getD 46 0), .ref (L.getD 47 0), .int 0, .int 0, .int 0, .int 0])), (L.getD 6 0, .inr (2, [.ref (L.getD 39 0), .int 0])), (L.getD 7 0, .inl (cs 0, 6, .inl (fun _ => 0))), (L.getD 8 0, .inr (6, [.ref (L.getD 21 0), .int (-1)])), (L.getD 9 0, .inr (6, [.ref (L.getD 22 0), .int (-1)])), (L.getD 10 0, .inr (6, [.ref (L.getD 23 0), .int (-1)])), (L.getD 11 0, .inr (6, [.ref (L.getD 24 0), .int (-1)])), (L.getD 12 0, .inr (6, [.ref (L.getD 25 0), .int (-1)])), (L.getD 13 0, .inr (6, [.ref (L.getD 26 0), .int (-1)])), (L.getD 14 0, .inr (9, [.ref (L.getD 27 0), .int (-1)])), (L.getD 15 0, .inr (9, [.ref (L.getD 28 0), .int (-1)])), (L.getD 16 0, .inr (9, [.ref (L.getD 29 0), .int (-1)])), (L.getD 17 0, .inr (9, [.ref (L.getD 30 0), .int (-1)])), (L.getD 18 0, .inr (8, [.ref (L.getD 40 0), .ref (L.getD 43 0), .int 0, .int 0, .int 0, .int 0])), (L.getD 19 0, .inr (8, [.ref (L.getD 41 0), .ref (L.getD 44 0), .int 0, .int 0, .int 0, .int 0])), (L.getD 20 0, .inr (8, [.ref (L.getD 42 0), .ref (L.getD 45 0), .int 0, .int 0, .int 0, .int 0])), (L.getD 21 0, .inl (cs 0, 40, .inl (fun _ => 0))), (L.getD 22 0, .inl (cs 0, 40, .inl (fun _ => 0))), (L.getD 23 0, .inl (cs 0, 40, .inl (fun _ => 0))), (L.getD 24 0, .inl (cs 0, 40, .inl (fun _ => 0))), (L.getD 25 0, .inl (cs 0, 40, .inl (fun _ => 0))), (L.getD 26 0, .inl (cs 0, 40, .inl (fun _ => 0))), (L.getD 27 0, .inl (cs 1, 80, .inl (fun _ => 0))), (L.getD 28 0, .inl (cs 1, 80, .inl (fun _ => 0))), (L.getD 29 0, .inl (cs 1, 80, .inl (fun _ => 0))), (L.getD 30 0, .inl (cs 1, 80, .inl (fun _ => 0))), (L.getD 31 0, .inr (4, [.ref (L.getD 48 0), .ref (L.getD 49 0), .ref (L.getD 50 0), .ref (L.getD 51 0), .int 0, .int 0])), (L.getD 32 0, .inr (5, [.ref (L.getD 52 0), .ref (L.getD 53 0), .ref (L.getD 54 0), .ref (L.getD 55 0), .ref (L.getD 56 0), .int 0, .int 0, .int 0, .int 0, .int 0, .int 0, .int 0, .int 0, .int 0, .int 0])), (L.getD 33 0, .inr (1, [.ref (L.getD 59 0), .ref (L.getD 60 0), .int 0, .int 0, .int 0])), (L.getD 34 0, .inl (cs 0, 7, .inl (fun _ => 0))), (L.getD 35 0, .inl (cs 0, 12, .inl (fun _ => 0))), (L.getD 36 0, .inl (cs 0, 12, .inl (fun _ => 0))), (L.getD 37 0, .inl (cs 0, 7, .inl (fun _ => 0))), (L.getD 38 0, .inl (cs 0, 7, .inl (fun _ => 0))), (L.getD 39 0, .inl (cs 6, 40, .inr (.inr (.inr (.inr (fun j => some (adX L q (77 + j)))))))), (L.getD 40 0, .inl (cs 0, 7, .inl (fun _ => 0))), (L.getD 41 0, .inl (cs 0, 7, .inl (fun _ => 0))), (L.getD 42 0, .inl (cs 0, 7, .inl (fun _ => 0))), (L.getD 43 0, .inl (cs 5, 4, .inr (.inr (.inr (.inr (fun j => some (adX L q (65 + j)))))))), (L.getD 44 0, .inl (cs 5, 4, .inr (.inr (.inr (.inr (fun j => some (adX L q (69 + j)))))))), (L.getD 45 0, .inl (cs 5, 4, .inr (.inr (.inr (.inr (fun j => some (adX L q (73 + j)))))))), (L.getD 46 0, .inl (cs 0, 7, .inl (fun _ => 0))), (L.getD 47 0, .inl (cs 5, 4, .inr (.inr (.inr (.inr (fun j => some (adX L q (61 + j)))))))), (L.getD 48 0, .inl (cs 0, 7, .inl (fun _ => 0))), (L.getD 49 0, .inl (cs 0, 7, .inl (fun _ => 0))), (L.getD 50 0, .inl (cs 0, 12, .inl (fun _ => 0))), (L.getD 51 0, .inl (cs 0, 12, .inl (fun _ => 0))), (L.getD 52 0, .inl (cs 0, 7, .inl (fun _ => 0))), (L.getD 53 0, .inl (cs 0, 7, .inl (fun _ => 0))), (L.getD 54 0, .inl (cs 0, 7, .inl (fun _ => 0))), (L.getD 55 0, .inr (0, [.ref (L.getD 57 0), .int 0, .int 0, .int 0])), (L.getD 56 0, .inr (0, [.ref (L.getD 58 0), .int 0, .int 0, .int 0])), (L.getD 57 0, .inl (cs 0, 7, .inl (fun _ => 0))), (L.getD 58 0, .inl (cs 0, 7, .inl (fun _ => 0))), (L.getD 59 0, .inl (cs 0, 7, .inl (fun _ => 0))), (L.getD 60 0, .inl (cs 0, 7, .inl (fun _ => 0))), (L.getD 61 0, .inr (3, [.int 0, .int 0, .int 0, .int 0, .int 0, .int 0, .int 0, .int 0, .int 0, .int 0])), (L.getD 62 0, .inr (3, [.int 0, .int 0, .int 0, .int 0, .int 0, .int 0, .int 0, .int 0, .int 0, .int 0])), (L.getD 63 0, .inr (3, [.int 0, .int 0, .int 0, .int 0, .int 0, .int 0, .int 0, .int 0, .int 0, .int 0])), (L.getD 64 0, .inr (3, [.int 0, .int 0, .int 0, .int 0, .int 0, .int 0, .int 0, .int 0, .int 0, .int 0])), (L.getD 65 0, .inr (3, [.int 0, .int 0, .int 0, .int 0, .int 0, .int 0, .int 0, .int 0, .int 0, .int 0])), (L.getD 66 0, .inr (3, [.int 0, .int 0, .int 0, .int 0, .int 0, .int 0, .int 0, .int 0, .int 0, .int 0])), (L.getD 67 0, .inr (3, [.int 0, .int 0, .int 0, .int 0, .int 0, .int 0, .int 0, .int 0, .int 0, .int 0])), (L.getD 68 0, .inr (3, [.int 0, .int 0, .int 0, .int 0, .int 0, .int 0, .int 0, .int 0, .int 0, .int 0])), (L.getD 69 0, .inr (3, [.int 0, .int 0, .int 0, .int 0, .int 0, .int 0, .int 0, .int 0, .int 0, .int 0])), (L.getD 70 0, .inr (3, [.int 0, .int 0, .int 0, .int 0, .int 0, .int 0, .int 0, .int 0, .int 0, .int 0])), (L.getD 71 0, .inr (3, [.int 0, .int 0, .int 0, .int 0, .int 0, .int 0, .int 0, .int 0, .int 0, .int 0])), (L.getD 72 0, .inr (3, [.int 0, .int 0, .int 0, .int 0, .int 0, .int 0, .int 0, .int 0, .int 0, .int 0])), (L.getD 73 0, .inr (3, [.int 0, .int 0, .int 0, .int 0, .int 0, .int 0, .int 0, .int 0, .int 0, .int 0])), (L.getD 74 0, .inr (3, [.int 0, .int 0, .int 0, .int 0, .int 0, .int 0, .int 0, .int 0, .int 0, .int 0])), (L.getD 75 0, .inr (3, [.int 0, .int 0, .int 0, .int 0, .int 0, .int 0, .int 0, .int 0, .int 0, .int 0])), (L.getD 76 0, .inr (3, [.int 0, .int 0, .int 0, .int 0, .int 0, .int 0, .int 0, .int 0, .int 0, .int 0]))] := by
  rw [wR77]
  exact (cX_cons cX_0 (cX_cons cX_1 (cX_cons cX_2 (cX_cons cX_3 (cX_cons cX_4 (cX_cons cX_5 (cX_cons cX_6 (cX_cons cX_7 (cX_cons cX_8 (cX_cons cX_9 (cX_cons cX_10 (cX_cons cX_11 (cX_cons cX_12 (cX_cons cX_13 (cX_cons cX_14 (cX_cons cX_15 (cX_cons cX_16 (cX_cons cX_17 (cX_cons cX_18 (cX_cons cX_19 (cX_cons cX_20 (cX_cons cX_21 (cX_cons cX_22 (cX_cons cX_23 (cX_cons cX_24 (cX_cons cX_25 (cX_cons cX_26 (cX_cons cX_27 (cX_cons cX_28 (cX_cons cX_29 (cX_cons cX_30 (cX_cons cX_31 (cX_cons cX_32 (cX_cons cX_33 (cX_cons cX_34 (cX_cons cX_35 (cX_cons cX_36 (cX_cons cX_37 (cX_cons cX_38 (cX_cons cX_39 (cX_cons cX_40 (cX_cons cX_41 (cX_cons cX_42 (cX_cons cX_43 (cX_cons cX_44 (cX_cons cX_45 (cX_cons cX_46 (cX_cons cX_47 (cX_cons cX_48 (cX_cons cX_49 (cX_cons cX_50 (cX_cons cX_51 (cX_cons cX_52 (cX_cons cX_53 (cX_cons cX_54 (cX_cons cX_55 (cX_cons cX_56 (cX_cons cX_57 (cX_cons cX_58 (cX_cons cX_59 (cX_cons cX_60 (cX_cons cX_61 (cX_cons cX_62 (cX_cons cX_63 (cX_cons cX_64 (cX_cons cX_65 (cX_cons cX_66 (cX_cons cX_67 (cX_cons cX_68 (cX_cons cX_69 (cX_cons cX_70 (cX_cons cX_71 (cX_cons cX_72 (cX_cons cX_73 (cX_cons cX_74 (cX_cons cX_75 (cX_cons cX_76 rfl)))))))))))))))))))))))))))))))))))))))))))))))))))))))))))))))))))))))))))))
theorem mw_1_23 : (Cond.methodLink RX11 1 objectInit : Cond) ∈ lw_good := lg_at 1 23 rfl rfl
theorem mw_1_26 : (Cond.classLink RX11 9 RX6 : Cond) ∈ lw_good := lg_at 1 26 rfl rfl
theorem mw_1_28 : (Cond.classLink RX11 15 RX9 : Cond) ∈ lw_good := lg_at 1 28 rfl rfl
theorem mw_1_30 : (Cond.classLink RX11 21 RX8 : Cond) ∈ lw_good := lg_at 1 30 rfl rfl
theorem mw_1_32 : (Cond.classLink RX11 27 RX10 : Cond) ∈ lw_good := lg_at 1 32 rfl rfl
theorem mw_1_33 : (Cond.instantiable RX10 8 : Cond) ∈ lw_good := lg_at 1 33 rfl rfl
theorem mw_1_36 : (Cond.code yX10_init cX10_init 1 none : Cond) ∈ lw_good := lg_at 1 36 rfl rfl
theorem mw_1_35 : (Cond.instanceMethod yX10_init : Cond) ∈ lw_good := lg_at 1 35 rfl rfl
theorem mw_1_185 : (Cond.classLink RX11 34 RX4 : Cond) ∈ lw_good := lg_at 1 185 rfl rfl
theorem mw_1_186 : (Cond.instantiable RX4 6 : Cond) ∈ lw_good := lg_at 1 186 rfl rfl
theorem mw_1_189 : (Cond.code yX4_init cX4_init 1 none : Cond) ∈ lw_good := lg_at 1 189 rfl rfl
theorem mw_1_188 : (Cond.instanceMethod yX4_init : Cond) ∈ lw_good := lg_at 1 188 rfl rfl
theorem mw_1_210 : (Cond.classLink RX11 41 RX2 : Cond) ∈ lw_good := lg_at 1 210 rfl rfl
theorem mw_1_211 : (Cond.instantiable RX2 2 : Cond) ∈ lw_good := lg_at 1 211 rfl rfl
theorem mw_1_214 : (Cond.code yX2_init cX2_init 2 none : Cond) ∈ lw_good := lg_at 1 214 rfl rfl
theorem mw_1_212 : (Cond.methodLink RX11 43 yX2_init : Cond) ∈ lw_good := lg_at 1 212 rfl rfl
theorem mw_1_213 : (Cond.instanceMethod yX2_init : Cond) ∈ lw_good := lg_at 1 213 rfl rfl
theorem mw_2_14 : (Cond.classLink RX11 48 RX5 : Cond) ∈ lw_good := lg_at 2 14 rfl rfl
theorem mw_2_15 : (Cond.instantiable RX5 15 : Cond) ∈ lw_good := lg_at 2 15 rfl rfl
theorem mw_2_18 : (Cond.code yX5_init cX5_init 1 none : Cond) ∈ lw_good := lg_at 2 18 rfl rfl
theorem mw_2_17 : (Cond.instanceMethod yX5_init : Cond) ∈ lw_good := lg_at 2 17 rfl rfl
theorem mw_2_98 : (Cond.classLink RX11 55 RX1 : Cond) ∈ lw_good := lg_at 2 98 rfl rfl
theorem mw_2_99 : (Cond.instantiable RX1 5 : Cond) ∈ lw_good := lg_at 2 99 rfl rfl
theorem mw_2_102 : (Cond.code yX1_init cX1_init 1 none : Cond) ∈ lw_good := lg_at 2 102 rfl rfl
theorem mw_2_101 : (Cond.instanceMethod yX1_init : Cond) ∈ lw_good := lg_at 2 101 rfl rfl
theorem mw_2_124 : (Cond.instantiable RX6 2 : Cond) ∈ lw_good := lg_at 2 124 rfl rfl
theorem mw_2_127 : (Cond.code yX6_init cX6_init 1 none : Cond) ∈ lw_good := lg_at 2 127 rfl rfl
theorem mw_2_126 : (Cond.instanceMethod yX6_init : Cond) ∈ lw_good := lg_at 2 126 rfl rfl
theorem mw_2_140 : (Cond.instantiable RX9 2 : Cond) ∈ lw_good := lg_at 2 140 rfl rfl
theorem mw_2_143 : (Cond.code yX9_init cX9_init 1 none : Cond) ∈ lw_good := lg_at 2 143 rfl rfl
theorem mw_2_142 : (Cond.instanceMethod yX9_init : Cond) ∈ lw_good := lg_at 2 142 rfl rfl
theorem mw_2_157 : (Cond.methodLink RX11 68 yX8_init : Cond) ∈ lw_good := lg_at 2 157 rfl rfl
theorem lb_X11_init_0 : dl_ck (cX11_init.data.toList.drop 0) [42, 183, 0, 1, 42, 16, 6, 189, 0, 9, 181, 0, 11, 42, 7, 189, 0, 15, 181, 0, 17, 42, 6, 189, 0, 21, 181, 0, 23, 42, 187, 0] = true := by decide +kernel
theorem lb_X11_init_1 : dl_ck (cX11_init.data.toList.drop 32) [27, 89, 183, 0, 29, 181, 0, 30, 42, 187, 0, 34, 89, 183, 0, 36, 181, 0, 37, 42, 187, 0, 41, 89, 183, 0, 43, 181, 0, 44, 42, 187] = true := by decide +kernel
theorem lb_X11_init_2 : dl_ck (cX11_init.data.toList.drop 64) [0, 48, 89, 183, 0, 50, 181, 0, 51, 42, 187, 0, 55, 89, 183, 0, 57, 181, 0, 58, 42, 16, 6, 188, 10, 181, 0, 62, 3, 60, 27, 16] = true := by decide +kernel
theorem lb_X11_init_3 : dl_ck (cX11_init.data.toList.drop 96) [6, 162, 0, 22, 42, 180, 0, 11, 27, 187, 0, 9, 89, 183, 0, 66, 83, 132, 1, 1, 167, 255, 234, 3, 60, 27, 7, 162, 0, 22, 42, 180] = true := by decide +kernel
theorem lb_X11_init_4 : dl_ck (cX11_init.data.toList.drop 128) [0, 17, 27, 187, 0, 15, 89, 183, 0, 67, 83, 132, 1, 1, 167, 255, 235, 3, 60, 27, 6, 162, 0, 22, 42, 180, 0, 23, 27, 187, 0, 21] = true := by decide +kernel
theorem lb_X11_init_5 : dl_ck (cX11_init.data.toList.drop 160) [89, 183, 0, 68, 83, 132, 1, 1, 167, 255, 235, 177] = true := by decide +kernel
theorem dX11_init_0 : decode cX11_init 0 = .ok (.aload_n 0, 1) := dx_42 (dl_at 0 0 lb_X11_init_0 rfl)
theorem dX11_init_1 : decode cX11_init 1 = .ok (.invokespecial 1, 3) := dx_183 (a := 0) (b := 1) (dl_at 0 1 lb_X11_init_0 rfl) (dl_at 0 2 lb_X11_init_0 rfl) (dl_at 0 3 lb_X11_init_0 rfl) rfl
theorem dX11_init_4 : decode cX11_init 4 = .ok (.aload_n 0, 1) := dx_42 (dl_at 0 4 lb_X11_init_0 rfl)
theorem dX11_init_5 : decode cX11_init 5 = .ok (.bipush 6, 2) := dx_16 (dl_at 0 5 lb_X11_init_0 rfl) (dl_at 0 6 lb_X11_init_0 rfl) sg8_6
theorem dX11_init_7 : decode cX11_init 7 = .ok (.anewarray 9, 3) := dx_189 (a := 0) (b := 9) (dl_at 0 7 lb_X11_init_0 rfl) (dl_at 0 8 lb_X11_init_0 rfl) (dl_at 0 9 lb_X11_init_0 rfl) rfl
theorem dX11_init_10 : decode cX11_init 10 = .ok (.putfield 11, 3) := dx_181 (a := 0) (b := 11) (dl_at 0 10 lb_X11_init_0 rfl) (dl_at 0 11 lb_X11_init_0 rfl) (dl_at 0 12 lb_X11_init_0 rfl) rfl
theorem dX11_init_13 : decode cX11_init 13 = .ok (.aload_n 0, 1) := dx_42 (dl_at 0 13 lb_X11_init_0 rfl)
theorem dX11_init_14 : decode cX11_init 14 = .ok (.iconst 4, 1) := dx_7 (dl_at 0 14 lb_X11_init_0 rfl)
theorem dX11_init_15 : decode cX11_init 15 = .ok (.anewarray 15, 3) := dx_189 (a := 0) (b := 15) (dl_at 0 15 lb_X11_init_0 rfl) (dl_at 0 16 lb_X11_init_0 rfl) (dl_at 0 17 lb_X11_init_0 rfl) rfl
theorem dX11_init_18 : decode cX11_init 18 = .ok (.putfield 17, 3) := dx_181 (a := 0) (b := 17) (dl_at 0 18 lb_X11_init_0 rfl) (dl_at 0 19 lb_X11_init_0 rfl) (dl_at 0 20 lb_X11_init_0 rfl) rfl
theorem dX11_init_21 : decode cX11_init 21 = .ok (.aload_n 0, 1) := dx_42 (dl_at 0 21 lb_X11_init_0 rfl)
theorem dX11_init_22 : decode cX11_init 22 = .ok (.iconst 3, 1) := dx_6 (dl_at 0 22 lb_X11_init_0 rfl)
theorem dX11_init_23 : decode cX11_init 23 = .ok (.anewarray 21, 3) := dx_189 (a := 0) (b := 21) (dl_at 0 23 lb_X11_init_0 rfl) (dl_at 0 24 lb_X11_init_0 rfl) (dl_at 0 25 lb_X11_init_0 rfl) rfl
theorem dX11_init_26 : decode cX11_init 26 = .ok (.putfield 23, 3) := dx_181 (a := 0) (b := 23) (dl_at 0 26 lb_X11_init_0 rfl) (dl_at 0 27 lb_X11_init_0 rfl) (dl_at 0 28 lb_X11_init_0 rfl) rfl
theorem dX11_init_29 : decode cX11_init 29 = .ok (.aload_n 0, 1) := dx_42 (dl_at 0 29 lb_X11_init_0 rfl)
theorem dX11_init_30 : decode cX11_init 30 = .ok (.new 27, 3) := dx_187 (a := 0) (b := 27) (dl_at 0 30 lb_X11_init_0 rfl) (dl_at 0 31 lb_X11_init_0 rfl) (dl_at 32 0 lb_X11_init_1 rfl) rfl
theorem dX11_init_33 : decode cX11_init 33 = .ok (.dup, 1) := dx_89 (dl_at 32 1 lb_X11_init_1 rfl)
theorem dX11_init_34 : decode cX11_init 34 = .ok (.invokespecial 29, 3) := dx_183 (a := 0) (b := 29) (dl_at 32 2 lb_X11_init_1 rfl) (dl_at 32 3 lb_X11_init_1 rfl) (dl_at 32 4 lb_X11_init_1 rfl) rfl
theorem dX11_init_37 : decode cX11_init 37 = .ok (.putfield 30, 3) := dx_181 (a := 0) (b := 30) (dl_at 32 5 lb_X11_init_1 rfl) (dl_at 32 6 lb_X11_init_1 rfl) (dl_at 32 7 lb_X11_init_1 rfl) rfl
theorem dX11_init_40 : decode cX11_init 40 = .ok (.aload_n 0, 1) := dx_42 (dl_at 32 8 lb_X11_init_1 rfl)
theorem dX11_init_41 : decode cX11_init 41 = .ok (.new 34, 3) := dx_187 (a := 0) (b := 34) (dl_at 32 9 lb_X11_init_1 rfl) (dl_at 32 10 lb_X11_init_1 rfl) (dl_at 32 11 lb_X11_init_1 rfl) rfl
theorem dX11_init_44 : decode cX11_init 44 = .ok (.dup, 1) := dx_89 (dl_at 32 12 lb_X11_init_1 rfl)
theorem dX11_init_45 : decode cX11_init 45 = .ok (.invokespecial 36, 3) := dx_183 (a := 0) (b := 36) (dl_at 32 13 lb_X11_init_1 rfl) (dl_at 32 14 lb_X11_init_1 rfl) (dl_at 32 15 lb_X11_init_1 rfl) rfl
theorem dX11_init_48 : decode cX11_init 48 = .ok (.putfield 37, 3) := dx_181 (a := 0) (b := 37) (dl_at 32 16 lb_X11_init_1 rfl) (dl_at 32 17 lb_X11_init_1 rfl) (dl_at 32 18 lb_X11_init_1 rfl) rfl
theorem dX11_init_51 : decode cX11_init 51 = .ok (.aload_n 0, 1) := dx_42 (dl_at 32 19 lb_X11_init_1 rfl)
theorem dX11_init_52 : decode cX11_init 52 = .ok (.new 41, 3) := dx_187 (a := 0) (b := 41) (dl_at 32 20 lb_X11_init_1 rfl) (dl_at 32 21 lb_X11_init_1 rfl) (dl_at 32 22 lb_X11_init_1 rfl) rfl
theorem dX11_init_55 : decode cX11_init 55 = .ok (.dup, 1) := dx_89 (dl_at 32 23 lb_X11_init_1 rfl)
theorem dX11_init_56 : decode cX11_init 56 = .ok (.invokespecial 43, 3) := dx_183 (a := 0) (b := 43) (dl_at 32 24 lb_X11_init_1 rfl) (dl_at 32 25 lb_X11_init_1 rfl) (dl_at 32 26 lb_X11_init_1 rfl) rfl
theorem dX11_init_59 : decode cX11_init 59 = .ok (.putfield 44, 3) := dx_181 (a := 0) (b := 44) (dl_at 32 27 lb_X11_init_1 rfl) (dl_at 32 28 lb_X11_init_1 rfl) (dl_at 32 29 lb_X11_init_1 rfl) rfl
theorem dX11_init_62 : decode cX11_init 62 = .ok (.aload_n 0, 1) := dx_42 (dl_at 32 30 lb_X11_init_1 rfl)
theorem dX11_init_63 : decode cX11_init 63 = .ok (.new 48, 3) := dx_187 (a := 0) (b := 48) (dl_at 32 31 lb_X11_init_1 rfl) (dl_at 64 0 lb_X11_init_2 rfl) (dl_at 64 1 lb_X11_init_2 rfl) rfl
theorem dX11_init_66 : decode cX11_init 66 = .ok (.dup, 1) := dx_89 (dl_at 64 2 lb_X11_init_2 rfl)
theorem dX11_init_67 : decode cX11_init 67 = .ok (.invokespecial 50, 3) := dx_183 (a := 0) (b := 50) (dl_at 64 3 lb_X11_init_2 rfl) (dl_at 64 4 lb_X11_init_2 rfl) (dl_at 64 5 lb_X11_init_2 rfl) rfl
theorem dX11_init_70 : decode cX11_init 70 = .ok (.putfield 51, 3) := dx_181 (a := 0) (b := 51) (dl_at 64 6 lb_X11_init_2 rfl) (dl_at 64 7 lb_X11_init_2 rfl) (dl_at 64 8 lb_X11_init_2 rfl) rfl
theorem dX11_init_73 : decode cX11_init 73 = .ok (.aload_n 0, 1) := dx_42 (dl_at 64 9 lb_X11_init_2 rfl)
theorem dX11_init_74 : decode cX11_init 74 = .ok (.new 55, 3) := dx_187 (a := 0) (b := 55) (dl_at 64 10 lb_X11_init_2 rfl) (dl_at 64 11 lb_X11_init_2 rfl) (dl_at 64 12 lb_X11_init_2 rfl) rfl
theorem dX11_init_77 : decode cX11_init 77 = .ok (.dup, 1) := dx_89 (dl_at 64 13 lb_X11_init_2 rfl)
theorem dX11_init_78 : decode cX11_init 78 = .ok (.invokespecial 57, 3) := dx_183 (a := 0) (b := 57) (dl_at 64 14 lb_X11_init_2 rfl) (dl_at 64 15 lb_X11_init_2 rfl) (dl_at 64 16 lb_X11_init_2 rfl) rfl
theorem dX11_init_81 : decode cX11_init 81 = .ok (.putfield 58, 3) := dx_181 (a := 0) (b := 58) (dl_at 64 17 lb_X11_init_2 rfl) (dl_at 64 18 lb_X11_init_2 rfl) (dl_at 64 19 lb_X11_init_2 rfl) rfl
theorem dX11_init_84 : decode cX11_init 84 = .ok (.aload_n 0, 1) := dx_42 (dl_at 64 20 lb_X11_init_2 rfl)
theorem dX11_init_85 : decode cX11_init 85 = .ok (.bipush 6, 2) := dx_16 (dl_at 64 21 lb_X11_init_2 rfl) (dl_at 64 22 lb_X11_init_2 rfl) sg8_6
theorem dX11_init_87 : decode cX11_init 87 = .ok (.newarray .int, 2) := by decide +kernel
theorem dX11_init_89 : decode cX11_init 89 = .ok (.putfield 62, 3) := dx_181 (a := 0) (b := 62) (dl_at 64 25 lb_X11_init_2 rfl) (dl_at 64 26 lb_X11_init_2 rfl) (dl_at 64 27 lb_X11_init_2 rfl) rfl
theorem dX11_init_92 : decode cX11_init 92 = .ok (.iconst 0, 1) := dx_3 (dl_at 64 28 lb_X11_init_2 rfl)
theorem dX11_init_93 : decode cX11_init 93 = .ok (.istore_n 1, 1) := dx_60 (dl_at 64 29 lb_X11_init_2 rfl)
theorem dX11_init_94 : decode cX11_init 94 = .ok (.iload_n 1, 1) := dx_27 (dl_at 64 30 lb_X11_init_2 rfl)
theorem dX11_init_95 : decode cX11_init 95 = .ok (.bipush 6, 2) := dx_16 (dl_at 64 31 lb_X11_init_2 rfl) (dl_at 96 0 lb_X11_init_3 rfl) sg8_6
theorem dX11_init_97 : decode cX11_init 97 = .ok (.if_icmp .ge 22, 3) := dx_162 (a := 0) (b := 22) (dl_at 96 1 lb_X11_init_3 rfl) (dl_at 96 2 lb_X11_init_3 rfl) (dl_at 96 3 lb_X11_init_3 rfl) sg16_22
theorem dX11_init_100 : decode cX11_init 100 = .ok (.aload_n 0, 1) := dx_42 (dl_at 96 4 lb_X11_init_3 rfl)
theorem dX11_init_101 : decode cX11_init 101 = .ok (.getfield 11, 3) := dx_180 (a := 0) (b := 11) (dl_at 96 5 lb_X11_init_3 rfl) (dl_at 96 6 lb_X11_init_3 rfl) (dl_at 96 7 lb_X11_init_3 rfl) rfl
theorem dX11_init_104 : decode cX11_init 104 = .ok (.iload_n 1, 1) := dx_27 (dl_at 96 8 lb_X11_init_3 rfl)
theorem dX11_init_105 : decode cX11_init 105 = .ok (.new 9, 3) := dx_187 (a := 0) (b := 9) (dl_at 96 9 lb_X11_init_3 rfl) (dl_at 96 10 lb_X11_init_3 rfl) (dl_at 96 11 lb_X11_init_3 rfl) rfl
theorem dX11_init_108 : decode cX11_init 108 = .ok (.dup, 1) := dx_89 (dl_at 96 12 lb_X11_init_3 rfl)
theorem dX11_init_109 : decode cX11_init 109 = .ok (.invokespecial 66, 3) := dx_183 (a := 0) (b := 66) (dl_at 96 13 lb_X11_init_3 rfl) (dl_at 96 14 lb_X11_init_3 rfl) (dl_at 96 15 lb_X11_init_3 rfl) rfl
theorem dX11_init_112 : decode cX11_init 112 = .ok (.aastore, 1) := dx_83 (dl_at 96 16 lb_X11_init_3 rfl)
theorem dX11_init_113 : decode cX11_init 113 = .ok (.iinc 1 1, 3) := dx_132 (dl_at 96 17 lb_X11_init_3 rfl) (dl_at 96 18 lb_X11_init_3 rfl) (dl_at 96 19 lb_X11_init_3 rfl) sg8_1
theorem dX11_init_116 : decode cX11_init 116 = .ok (.goto (-22), 3) := dx_167 (a := 255) (b := 234) (dl_at 96 20 lb_X11_init_3 rfl) (dl_at 96 21 lb_X11_init_3 rfl) (dl_at 96 22 lb_X11_init_3 rfl) sg16_65514
theorem dX11_init_119 : decode cX11_init 119 = .ok (.iconst 0, 1) := dx_3 (dl_at 96 23 lb_X11_init_3 rfl)
theorem dX11_init_120 : decode cX11_init 120 = .ok (.istore_n 1, 1) := dx_60 (dl_at 96 24 lb_X11_init_3 rfl)
theorem dX11_init_121 : decode cX11_init 121 = .ok (.iload_n 1, 1) := dx_27 (dl_at 96 25 lb_X11_init_3 rfl)
theorem dX11_init_122 : decode cX11_init 122 = .ok (.iconst 4, 1) := dx_7 (dl_at 96 26 lb_X11_init_3 rfl)
theorem dX11_init_123 : decode cX11_init 123 = .ok (.if_icmp .ge 22, 3) := dx_162 (a := 0) (b := 22) (dl_at 96 27 lb_X11_init_3 rfl) (dl_at 96 28 lb_X11_init_3 rfl) (dl_at 96 29 lb_X11_init_3 rfl) sg16_22
theorem dX11_init_126 : decode cX11_init 126 = .ok (.aload_n 0, 1) := dx_42 (dl_at 96 30 lb_X11_init_3 rfl)
theorem dX11_init_127 : decode cX11_init 127 = .ok (.getfield 17, 3) := dx_180 (a := 0) (b := 17) (dl_at 96 31 lb_X11_init_3 rfl) (dl_at 128 0 lb_X11_init_4 rfl) (dl_at 128 1 lb_X11_init_4 rfl) rfl
theorem dX11_init_130 : decode cX11_init 130 = .ok (.iload_n 1, 1) := dx_27 (dl_at 128 2 lb_X11_init_4 rfl)
theorem dX11_init_131 : decode cX11_init 131 = .ok (.new 15, 3) := dx_187 (a := 0) (b := 15) (dl_at 128 3 lb_X11_init_4 rfl) (dl_at 128 4 lb_X11_init_4 rfl) (dl_at 128 5 lb_X11_init_4 rfl) rfl
theorem dX11_init_134 : decode cX11_init 134 = .ok (.dup, 1) := dx_89 (dl_at 128 6 lb_X11_init_4 rfl)
theorem dX11_init_135 : decode cX11_init 135 = .ok (.invokespecial 67, 3) := dx_183 (a := 0) (b := 67) (dl_at 128 7 lb_X11_init_4 rfl) (dl_at 128 8 lb_X11_init_4 rfl) (dl_at 128 9 lb_X11_init_4 rfl) rfl
theorem dX11_init_138 : decode cX11_init 138 = .ok (.aastore, 1) := dx_83 (dl_at 128 10 lb_X11_init_4 rfl)
theorem dX11_init_139 : decode cX11_init 139 = .ok (.iinc 1 1, 3) := dx_132 (dl_at 128 11 lb_X11_init_4 rfl) (dl_at 128 12 lb_X11_init_4 rfl) (dl_at 128 13 lb_X11_init_4 rfl) sg8_1
theorem dX11_init_142 : decode cX11_init 142 = .ok (.goto (-21), 3) := dx_167 (a := 255) (b := 235) (dl_at 128 14 lb_X11_init_4 rfl) (dl_at 128 15 lb_X11_init_4 rfl) (dl_at 128 16 lb_X11_init_4 rfl) sg16_65515
theorem dX11_init_145 : decode cX11_init 145 = .ok (.iconst 0, 1) := dx_3 (dl_at 128 17 lb_X11_init_4 rfl)
theorem dX11_init_146 : decode cX11_init 146 = .ok (.istore_n 1, 1) := dx_60 (dl_at 128 18 lb_X11_init_4 rfl)
theorem dX11_init_147 : decode cX11_init 147 = .ok (.iload_n 1, 1) := dx_27 (dl_at 128 19 lb_X11_init_4 rfl)
theorem dX11_init_148 : decode cX11_init 148 = .ok (.iconst 3, 1) := dx_6 (dl_at 128 20 lb_X11_init_4 rfl)
theorem dX11_init_149 : decode cX11_init 149 = .ok (.if_icmp .ge 22, 3) := dx_162 (a := 0) (b := 22) (dl_at 128 21 lb_X11_init_4 rfl) (dl_at 128 22 lb_X11_init_4 rfl) (dl_at 128 23 lb_X11_init_4 rfl) sg16_22
theorem dX11_init_152 : decode cX11_init 152 = .ok (.aload_n 0, 1) := dx_42 (dl_at 128 24 lb_X11_init_4 rfl)
theorem dX11_init_153 : decode cX11_init 153 = .ok (.getfield 23, 3) := dx_180 (a := 0) (b := 23) (dl_at 128 25 lb_X11_init_4 rfl) (dl_at 128 26 lb_X11_init_4 rfl) (dl_at 128 27 lb_X11_init_4 rfl) rfl
theorem dX11_init_156 : decode cX11_init 156 = .ok (.iload_n 1, 1) := dx_27 (dl_at 128 28 lb_X11_init_4 rfl)
theorem dX11_init_157 : decode cX11_init 157 = .ok (.new 21, 3) := dx_187 (a := 0) (b := 21) (dl_at 128 29 lb_X11_init_4 rfl) (dl_at 128 30 lb_X11_init_4 rfl) (dl_at 128 31 lb_X11_init_4 rfl) rfl
theorem dX11_init_160 : decode cX11_init 160 = .ok (.dup, 1) := dx_89 (dl_at 160 0 lb_X11_init_5 rfl)
theorem dX11_init_161 : decode cX11_init 161 = .ok (.invokespecial 68, 3) := dx_183 (a := 0) (b := 68) (dl_at 160 1 lb_X11_init_5 rfl) (dl_at 160 2 lb_X11_init_5 rfl) (dl_at 160 3 lb_X11_init_5 rfl) rfl
theorem dX11_init_164 : decode cX11_init 164 = .ok (.aastore, 1) := dx_83 (dl_at 160 4 lb_X11_init_5 rfl)
theorem dX11_init_165 : decode cX11_init 165 = .ok (.iinc 1 1, 3) := dx_132 (dl_at 160 5 lb_X11_init_5 rfl) (dl_at 160 6 lb_X11_init_5 rfl) (dl_at 160 7 lb_X11_init_5 rfl) sg8_1
theorem dX11_init_168 : decode cX11_init 168 = .ok (.goto (-21), 3) := dx_167 (a := 255) (b := 235) (dl_at 160 8 lb_X11_init_5 rfl) (dl_at 160 9 lb_X11_init_5 rfl) (dl_at 160 10 lb_X11_init_5 rfl) sg16_65515
theorem dX11_init_171 : decode cX11_init 171 = .ok (.return_, 1) := dx_177 (dl_at 160 11 lb_X11_init_5 rfl)
