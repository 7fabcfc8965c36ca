def EX (cs : Nat → ClassId) (ad : Nat → Nat) (k : Nat) (g : Nat → Int32) : va_E :=
  if k < 8 then (match k with
    | 0 => .inr (11, [.ref (ad 1), .ref (ad 2), .ref (ad 3), .ref (ad 4), .ref (ad 31), .ref (ad 6), .ref (ad 32), .ref (ad 33), .ref (ad 7), .int (g 9), .int (g 10)])
    | 1 => .inl (cs 2, 6, .inr (.inr (.inr (.inr (fun j => some (ad (8 + j)))))))
    | 2 => .inl (cs 3, 4, .inr (.inr (.inr (.inr (fun j => some (ad (14 + j)))))))
    | 3 => .inl (cs 4, 3, .inr (.inr (.inr (.inr (fun j => some (ad (18 + j)))))))
    | 4 => .inr (10, [.ref (ad 34), .ref (ad 35), .ref (ad 36), .ref (ad 5), .ref (ad 37), .ref (ad 38), .int (g 6), .int (g 7)])
    | 5 => .inr (8, [.ref (ad 46), .ref (ad 47), .int (g 2), .int (g 3), .int (g 4), .int (g 5)])
    | 6 => .inr (2, [.ref (ad 39), .int (g 1)])
    | _ => .inl (cs 0, 6, .inl g)) else
  if k < 14 then .inr (6, [.ref (ad (k + 13)), .int (g 1)]) else
  if k < 18 then .inr (9, [.ref (ad (k + 13)), .int (g 1)]) else
  if k < 21 then .inr (8, [.ref (ad (k + 22)), .ref (ad (k + 25)), .int (g 2), .int (g 3), .int (g 4), .int (g 5)]) else
  if k < 27 then .inl (cs 0, 40, .inl g) else
  if k < 31 then .inl (cs 1, 80, .inl g) else
  if k < 61 then (match k with
    | 31 => .inr (4, [.ref (ad 48), .ref (ad 49), .ref (ad 50), .ref (ad 51), .int (g 4), .int (g 5)])
    | 32 => .inr (5, [.ref (ad 52), .ref (ad 53), .ref (ad 54), .ref (ad 55), .ref (ad 56), .int (g 5), .int (g 6), .int (g 7), .int (g 8), .int (g 9), .int (g 10), .int (g 11), .int (g 12), .int (g 13), .int (g 14)])
    | 33 => .inr (1, [.ref (ad 59), .ref (ad 60), .int (g 2), .int (g 3), .int (g 4)])
    | 34 => .inl (cs 0, 7, .inl g)
    | 35 => .inl (cs 0, 12, .inl g)
    | 36 => .inl (cs 0, 12, .inl g)
    | 37 => .inl (cs 0, 7, .inl g)
    | 38 => .inl (cs 0, 7, .inl g)
    | 39 => .inl (cs 6, 40, .inr (.inr (.inr (.inr (fun j => some (ad (77 + j)))))))
    | 40 => .inl (cs 0, 7, .inl g)
    | 41 => .inl (cs 0, 7, .inl g)
    | 42 => .inl (cs 0, 7, .inl g)
    | 43 => .inl (cs 5, 4, .inr (.inr (.inr (.inr (fun j => some (ad (65 + j)))))))
    | 44 => .inl (cs 5, 4, .inr (.inr (.inr (.inr (fun j => some (ad (69 + j)))))))
    | 45 => .inl (cs 5, 4, .inr (.inr (.inr (.inr (fun j => some (ad (73 + j)))))))
    | 46 => .inl (cs 0, 7, .inl g)
    | 47 => .inl (cs 5, 4, .inr (.inr (.inr (.inr (fun j => some (ad (61 + j)))))))
    | 48 => .inl (cs 0, 7, .inl g)
    | 49 => .inl (cs 0, 7, .inl g)
    | 50 => .inl (cs 0, 12, .inl g)
    | 51 => .inl (cs 0, 12, .inl g)
    | 52 => .inl (cs 0, 7, .inl g)
    | 53 => .inl (cs 0, 7, .inl g)
    | 54 => .inl (cs 0, 7, .inl g)
    | 55 => .inr (0, [.ref (ad 57), .int (g 1), .int (g 2), .int (g 3)])
    | 56 => .inr (0, [.ref (ad 58), .int (g 1), .int (g 2), .int (g 3)])
    | 57 => .inl (cs 0, 7, .inl g)
    | 58 => .inl (cs 0, 7, .inl g)
    | 59 => .inl (cs 0, 7, .inl g)
    | _ => .inl (cs 0, 7, .inl g)) else
  if k < 77 then .inr (3, [.int (g 0), .int (g 1), .int (g 2), .int (g 3), .int (g 4), .int (g 5), .int (g 6), .int (g 7), .int (g 8), .int (g 9)]) else
  if k < 117 then .inr (7, [.ref (ad (k + 40)), .int (g 1), .int (g 2), .int (g 3), .int (g 4), .int (g 5), .int (g 6)]) else
  .inl (cs 0, 7, .inl g)
theorem EX_row (cs : Nat → ClassId) (ad : Nat → Nat) (k : Nat) (g : Nat → Int32) (h1 : 8 ≤ k) (h2 : k < 14) : EX cs ad k g = .inr (6, [.ref (ad (k + 13)), .int (g 1)]) := by
  unfold EX
  simp (discharger := omega) only [if_pos, if_neg]
theorem EX_text (cs : Nat → ClassId) (ad : Nat → Nat) (k : Nat) (g : Nat → Int32) (h1 : 14 ≤ k) (h2 : k < 18) : EX cs ad k g = .inr (9, [.ref (ad (k + 13)), .int (g 1)]) := by
  unfold EX
  simp (discharger := omega) only [if_pos, if_neg]
theorem EX_kept (cs : Nat → ClassId) (ad : Nat → Nat) (k : Nat) (g : Nat → Int32) (h1 : 18 ≤ k) (h2 : k < 21) : EX cs ad k g = .inr (8, [.ref (ad (k + 22)), .ref (ad (k + 25)), .int (g 2), .int (g 3), .int (g 4), .int (g 5)]) := by
  unfold EX
  simp (discharger := omega) only [if_pos, if_neg]
theorem EX_places (cs : Nat → ClassId) (ad : Nat → Nat) (k : Nat) (g : Nat → Int32) (h1 : 21 ≤ k) (h2 : k < 27) : EX cs ad k g = .inl (cs 0, 40, .inl g) := by
  unfold EX
  simp (discharger := omega) only [if_pos, if_neg]
theorem EX_bytes (cs : Nat → ClassId) (ad : Nat → Nat) (k : Nat) (g : Nat → Int32) (h1 : 27 ≤ k) (h2 : k < 31) : EX cs ad k g = .inl (cs 1, 80, .inl g) := by
  unfold EX
  simp (discharger := omega) only [if_pos, if_neg]
theorem EX_letter (cs : Nat → ClassId) (ad : Nat → Nat) (k : Nat) (g : Nat → Int32) (h1 : 61 ≤ k) (h2 : k < 77) : EX cs ad k g = .inr (3, [.int (g 0), .int (g 1), .int (g 2), .int (g 3), .int (g 4), .int (g 5), .int (g 6), .int (g 7), .int (g 8), .int (g 9)]) := by
  unfold EX
  simp (discharger := omega) only [if_pos, if_neg]
theorem EX_sale (cs : Nat → ClassId) (ad : Nat → Nat) (k : Nat) (g : Nat → Int32) (h1 : 77 ≤ k) (h2 : k < 117) : EX cs ad k g = .inr (7, [.ref (ad (k + 40)), .int (g 1), .int (g 2), .int (g 3), .int (g 4), .int (g 5), .int (g 6)]) := by
  unfold EX
  simp (discharger := omega) only [if_pos, if_neg]
theorem EX_spurses (cs : Nat → ClassId) (ad : Nat → Nat) (k : Nat) (g : Nat → Int32) (h1 : 117 ≤ k) (h2 : k < 157) : EX cs ad k g = .inl (cs 0, 7, .inl g) := by
  unfold EX
  simp (discharger := omega) only [if_pos, if_neg]
def tyW (cs : Nat → ClassId) : List (ClassId × FieldType) := [(cs 0, .int), (cs 1, .byte), (cs 2, .object RX6), (cs 3, .object RX9), (cs 4, .object RX8), (cs 5, .object RX3), (cs 6, .object RX7)]
theorem gX_0 (cs : Nat → ClassId) (ad : Nat → Nat) (mu : Nat → Nat → Int32) : (wR 157 ad (EX cs ad) mu)[0]? = some (ad 0, .inr (11, [.ref (ad 1), .ref (ad 2), .ref (ad 3), .ref (ad 4), .ref (ad 31), .ref (ad 6), .ref (ad 32), .ref (ad 33), .ref (ad 7), .int (mu 0 9), .int (mu 0 10)])) := wR_get 0 (by decide)
theorem gX_1 (cs : Nat → ClassId) (ad : Nat → Nat) (mu : Nat → Nat → Int32) : (wR 157 ad (EX cs ad) mu)[1]? = some (ad 1, .inl (cs 2, 6, .inr (.inr (.inr (.inr (fun j => some (ad (8 + j)))))))) := wR_get 1 (by decide)
theorem gX_2 (cs : Nat → ClassId) (ad : Nat → Nat) (mu : Nat → Nat → Int32) : (wR 157 ad (EX cs ad) mu)[2]? = some (ad 2, .inl (cs 3, 4, .inr (.inr (.inr (.inr (fun j => some (ad (14 + j)))))))) := wR_get 2 (by decide)
theorem gX_3 (cs : Nat → ClassId) (ad : Nat → Nat) (mu : Nat → Nat → Int32) : (wR 157 ad (EX cs ad) mu)[3]? = some (ad 3, .inl (cs 4, 3, .inr (.inr (.inr (.inr (fun j => some (ad (18 + j)))))))) := wR_get 3 (by decide)
theorem gX_4 (cs : Nat → ClassId) (ad : Nat → Nat) (mu : Nat → Nat → Int32) : (wR 157 ad (EX cs ad) mu)[4]? = some (ad 4, .inr (10, [.ref (ad 34), .ref (ad 35), .ref (ad 36), .ref (ad 5), .ref (ad 37), .ref (ad 38), .int (mu 4 6), .int (mu 4 7)])) := wR_get 4 (by decide)
theorem gX_5 (cs : Nat → ClassId) (ad : Nat → Nat) (mu : Nat → Nat → Int32) : (wR 157 ad (EX cs ad) mu)[5]? = some (ad 5, .inr (8, [.ref (ad 46), .ref (ad 47), .int (mu 5 2), .int (mu 5 3), .int (mu 5 4), .int (mu 5 5)])) := wR_get 5 (by decide)
theorem gX_6 (cs : Nat → ClassId) (ad : Nat → Nat) (mu : Nat → Nat → Int32) : (wR 157 ad (EX cs ad) mu)[6]? = some (ad 6, .inr (2, [.ref (ad 39), .int (mu 6 1)])) := wR_get 6 (by decide)
theorem gX_7 (cs : Nat → ClassId) (ad : Nat → Nat) (mu : Nat → Nat → Int32) : (wR 157 ad (EX cs ad) mu)[7]? = some (ad 7, .inl (cs 0, 6, .inl (mu 7))) := wR_get 7 (by decide)
theorem gX_18 (cs : Nat → ClassId) (ad : Nat → Nat) (mu : Nat → Nat → Int32) : (wR 157 ad (EX cs ad) mu)[18]? = some (ad 18, .inr (8, [.ref (ad 40), .ref (ad 43), .int (mu 18 2), .int (mu 18 3), .int (mu 18 4), .int (mu 18 5)])) := wR_get 18 (by decide)
theorem gX_19 (cs : Nat → ClassId) (ad : Nat → Nat) (mu : Nat → Nat → Int32) : (wR 157 ad (EX cs ad) mu)[19]? = some (ad 19, .inr (8, [.ref (ad 41), .ref (ad 44), .int (mu 19 2), .int (mu 19 3), .int (mu 19 4), .int (mu 19 5)])) := wR_get 19 (by decide)
theorem gX_20 (cs : Nat → ClassId) (ad : Nat → Nat) (mu : Nat → Nat → Int32) : (wR 157 ad (EX cs ad) mu)[20]? = some (ad 20, .inr (8, [.ref (ad 42), .ref (ad 45), .int (mu 20 2), .int (mu 20 3), .int (mu 20 4), .int (mu 20 5)])) := wR_get 20 (by decide)
theorem gX_31 (cs : Nat → ClassId) (ad : Nat → Nat) (mu : Nat → Nat → Int32) : (wR 157 ad (EX cs ad) mu)[31]? = some (ad 31, .inr (4, [.ref (ad 48), .ref (ad 49), .ref (ad 50), .ref (ad 51), .int (mu 31 4), .int (mu 31 5)])) := wR_get 31 (by decide)
theorem gX_32 (cs : Nat → ClassId) (ad : Nat → Nat) (mu : Nat → Nat → Int32) : (wR 157 ad (EX cs ad) mu)[32]? = some (ad 32, .inr (5, [.ref (ad 52), .ref (ad 53), .ref (ad 54), .ref (ad 55), .ref (ad 56), .int (mu 32 5), .int (mu 32 6), .int (mu 32 7), .int (mu 32 8), .int (mu 32 9), .int (mu 32 10), .int (mu 32 11), .int (mu 32 12), .int (mu 32 13), .int (mu 32 14)])) := wR_get 32 (by decide)
theorem gX_33 (cs : Nat → ClassId) (ad : Nat → Nat) (mu : Nat → Nat → Int32) : (wR 157 ad (EX cs ad) mu)[33]? = some (ad 33, .inr (1, [.ref (ad 59), .ref (ad 60), .int (mu 33 2), .int (mu 33 3), .int (mu 33 4)])) := wR_get 33 (by decide)
theorem gX_34 (cs : Nat → ClassId) (ad : Nat → Nat) (mu : Nat → Nat → Int32) : (wR 157 ad (EX cs ad) mu)[34]? = some (ad 34, .inl (cs 0, 7, .inl (mu 34))) := wR_get 34 (by decide)
theorem gX_35 (cs : Nat → ClassId) (ad : Nat → Nat) (mu : Nat → Nat → Int32) : (wR 157 ad (EX cs ad) mu)[35]? = some (ad 35, .inl (cs 0, 12, .inl (mu 35))) := wR_get 35 (by decide)
theorem gX_36 (cs : Nat → ClassId) (ad : Nat → Nat) (mu : Nat → Nat → Int32) : (wR 157 ad (EX cs ad) mu)[36]? = some (ad 36, .inl (cs 0, 12, .inl (mu 36))) := wR_get 36 (by decide)
theorem gX_37 (cs : Nat → ClassId) (ad : Nat → Nat) (mu : Nat → Nat → Int32) : (wR 157 ad (EX cs ad) mu)[37]? = some (ad 37, .inl (cs 0, 7, .inl (mu 37))) := wR_get 37 (by decide)
theorem gX_38 (cs : Nat → ClassId) (ad : Nat → Nat) (mu : Nat → Nat → Int32) : (wR 157 ad (EX cs ad) mu)[38]? = some (ad 38, .inl (cs 0, 7, .inl (mu 38))) := wR_get 38 (by decide)
theorem gX_39 (cs : Nat → ClassId) (ad : Nat → Nat) (mu : Nat → Nat → Int32) : (wR 157 ad (EX cs ad) mu)[39]? = some (ad 39, .inl (cs 6, 40, .inr (.inr (.inr (.inr (fun j => some (ad (77 + j)))))))) := wR_get 39 (by decide)
theorem gX_40 (cs : Nat → ClassId) (ad : Nat → Nat) (mu : Nat → Nat → Int32) : (wR 157 ad (EX cs ad) mu)[40]? = some (ad 40, .inl (cs 0, 7, .inl (mu 40))) := wR_get 40 (by decide)
theorem gX_41 (cs : Nat → ClassId) (ad : Nat → Nat) (mu : Nat → Nat → Int32) : (wR 157 ad (EX cs ad) mu)[41]? = some (ad 41, .inl (cs 0, 7, .inl (mu 41))) := wR_get 41 (by decide)
theorem gX_42 (cs : Nat → ClassId) (ad : Nat → Nat) (mu : Nat → Nat → Int32) : (wR 157 ad (EX cs ad) mu)[42]? = some (ad 42, .inl (cs 0, 7, .inl (mu 42))) := wR_get 42 (by decide)
theorem gX_43 (cs : Nat → ClassId) (ad : Nat → Nat) (mu : Nat → Nat → Int32) : (wR 157 ad (EX cs ad) mu)[43]? = some (ad 43, .inl (cs 5, 4, .inr (.inr (.inr (.inr (fun j => some (ad (65 + j)))))))) := wR_get 43 (by decide)
theorem gX_44 (cs : Nat → ClassId) (ad : Nat → Nat) (mu : Nat → Nat → Int32) : (wR 157 ad (EX cs ad) mu)[44]? = some (ad 44, .inl (cs 5, 4, .inr (.inr (.inr (.inr (fun j => some (ad (69 + j)))))))) := wR_get 44 (by decide)
theorem gX_45 (cs : Nat → ClassId) (ad : Nat → Nat) (mu : Nat → Nat → Int32) : (wR 157 ad (EX cs ad) mu)[45]? = some (ad 45, .inl (cs 5, 4, .inr (.inr (.inr (.inr (fun j => some (ad (73 + j)))))))) := wR_get 45 (by decide)
theorem gX_46 (cs : Nat → ClassId) (ad : Nat → Nat) (mu : Nat → Nat → Int32) : (wR 157 ad (EX cs ad) mu)[46]? = some (ad 46, .inl (cs 0, 7, .inl (mu 46))) := wR_get 46 (by decide)
theorem gX_47 (cs : Nat → ClassId) (ad : Nat → Nat) (mu : Nat → Nat → Int32) : (wR 157 ad (EX cs ad) mu)[47]? = some (ad 47, .inl (cs 5, 4, .inr (.inr (.inr (.inr (fun j => some (ad (61 + j)))))))) := wR_get 47 (by decide)
theorem gX_48 (cs : Nat → ClassId) (ad : Nat → Nat) (mu : Nat → Nat → Int32) : (wR 157 ad (EX cs ad) mu)[48]? = some (ad 48, .inl (cs 0, 7, .inl (mu 48))) := wR_get 48 (by decide)
theorem gX_49 (cs : Nat → ClassId) (ad : Nat → Nat) (mu : Nat → Nat → Int32) : (wR 157 ad (EX cs ad) mu)[49]? = some (ad 49, .inl (cs 0, 7, .inl (mu 49))) := wR_get 49 (by decide)
theorem gX_50 (cs : Nat → ClassId) (ad : Nat → Nat) (mu : Nat → Nat → Int32) : (wR 157 ad (EX cs ad) mu)[50]? = some (ad 50, .inl (cs 0, 12, .inl (mu 50))) := wR_get 50 (by decide)
theorem gX_51 (cs : Nat → ClassId) (ad : Nat → Nat) (mu : Nat → Nat → Int32) : (wR 157 ad (EX cs ad) mu)[51]? = some (ad 51, .inl (cs 0, 12, .inl (mu 51))) := wR_get 51 (by decide)
theorem gX_52 (cs : Nat → ClassId) (ad : Nat → Nat) (mu : Nat → Nat → Int32) : (wR 157 ad (EX cs ad) mu)[52]? = some (ad 52, .inl (cs 0, 7, .inl (mu 52))) := wR_get 52 (by decide)
theorem gX_53 (cs : Nat → ClassId) (ad : Nat → Nat) (mu : Nat → Nat → Int32) : (wR 157 ad (EX cs ad) mu)[53]? = some (ad 53, .inl (cs 0, 7, .inl (mu 53))) := wR_get 53 (by decide)
theorem gX_54 (cs : Nat → ClassId) (ad : Nat → Nat) (mu : Nat → Nat → Int32) : (wR 157 ad (EX cs ad) mu)[54]? = some (ad 54, .inl (cs 0, 7, .inl (mu 54))) := wR_get 54 (by decide)
theorem gX_55 (cs : Nat → ClassId) (ad : Nat → Nat) (mu : Nat → Nat → Int32) : (wR 157 ad (EX cs ad) mu)[55]? = some (ad 55, .inr (0, [.ref (ad 57), .int (mu 55 1), .int (mu 55 2), .int (mu 55 3)])) := wR_get 55 (by decide)
theorem gX_56 (cs : Nat → ClassId) (ad : Nat → Nat) (mu : Nat → Nat → Int32) : (wR 157 ad (EX cs ad) mu)[56]? = some (ad 56, .inr (0, [.ref (ad 58), .int (mu 56 1), .int (mu 56 2), .int (mu 56 3)])) := wR_get 56 (by decide)
theorem gX_57 (cs : Nat → ClassId) (ad : Nat → Nat) (mu : Nat → Nat → Int32) : (wR 157 ad (EX cs ad) mu)[57]? = some (ad 57, .inl (cs 0, 7, .inl (mu 57))) := wR_get 57 (by decide)
theorem gX_58 (cs : Nat → ClassId) (ad : Nat → Nat) (mu : Nat → Nat → Int32) : (wR 157 ad (EX cs ad) mu)[58]? = some (ad 58, .inl (cs 0, 7, .inl (mu 58))) := wR_get 58 (by decide)
theorem gX_59 (cs : Nat → ClassId) (ad : Nat → Nat) (mu : Nat → Nat → Int32) : (wR 157 ad (EX cs ad) mu)[59]? = some (ad 59, .inl (cs 0, 7, .inl (mu 59))) := wR_get 59 (by decide)
theorem gX_60 (cs : Nat → ClassId) (ad : Nat → Nat) (mu : Nat → Nat → Int32) : (wR 157 ad (EX cs ad) mu)[60]? = some (ad 60, .inl (cs 0, 7, .inl (mu 60))) := wR_get 60 (by decide)
theorem gX_row (cs : Nat → ClassId) (ad : Nat → Nat) (mu : Nat → Nat → Int32) (k : Nat) (h1 : 8 ≤ k) (h2 : k < 14) : (wR 157 ad (EX cs ad) mu)[k]? = some (ad k, .inr (6, [.ref (ad (k + 13)), .int (mu k 1)])) := (wR_get k (by omega)).trans (by rw [EX_row cs ad k (mu k) h1 h2])
theorem gX_text (cs : Nat → ClassId) (ad : Nat → Nat) (mu : Nat → Nat → Int32) (k : Nat) (h1 : 14 ≤ k) (h2 : k < 18) : (wR 157 ad (EX cs ad) mu)[k]? = some (ad k, .inr (9, [.ref (ad (k + 13)), .int (mu k 1)])) := (wR_get k (by omega)).trans (by rw [EX_text cs ad k (mu k) h1 h2])
theorem gX_kept (cs : Nat → ClassId) (ad : Nat → Nat) (mu : Nat → Nat → Int32) (k : Nat) (h1 : 18 ≤ k) (h2 : k < 21) : (wR 157 ad (EX cs ad) mu)[k]? = some (ad k, .inr (8, [.ref (ad (k + 22)), .ref (ad (k + 25)), .int (mu k 2), .int (mu k 3), .int (mu k 4), .int (mu k 5)])) := (wR_get k (by omega)).trans (by rw [EX_kept cs ad k (mu k) h1 h2])
theorem gX_places (cs : Nat → ClassId) (ad : Nat → Nat) (mu : Nat → Nat → Int32) (k : Nat) (h1 : 21 ≤ k) (h2 : k < 27) : (wR 157 ad (EX cs ad) mu)[k]? = some (ad k, .inl (cs 0, 40, .inl (mu k))) := (wR_get k (by omega)).trans (by rw [EX_places cs ad k (mu k) h1 h2])
theorem gX_bytes (cs : Nat → ClassId) (ad : Nat → Nat) (mu : Nat → Nat → Int32) (k : Nat) (h1 : 27 ≤ k) (h2 : k < 31) : (wR 157 ad (EX cs ad) mu)[k]? = some (ad k, .inl (cs 1, 80, .inl (mu k))) := (wR_get k (by omega)).trans (by rw [EX_bytes cs ad k (mu k) h1 h2])
theorem gX_letter (cs : Nat → ClassId) (ad : Nat → Nat) (mu : Nat → Nat → Int32) (k : Nat) (h1 : 61 ≤ k) (h2 : k < 77) : (wR 157 ad (EX cs ad) mu)[k]? = some (ad k, .inr (3, [.int (mu k 0), .int (mu k 1), .int (mu k 2), .int (mu k 3), .int (mu k 4), .int (mu k 5), .int (mu k 6), .int (mu k 7), .int (mu k 8), .int (mu k 9)])) := (wR_get k (by omega)).trans (by rw [EX_letter cs ad k (mu k) h1 h2])
theorem gX_sale (cs : Nat → ClassId) (ad : Nat → Nat) (mu : Nat → Nat → Int32) (k : Nat) (h1 : 77 ≤ k) (h2 : k < 117) : (wR 157 ad (EX cs ad) mu)[k]? = some (ad k, .inr (7, [.ref (ad (k + 40)), .int (mu k 1), .int (mu k 2), .int (mu k 3), .int (mu k 4), .int (mu k 5), .int (mu k 6)])) := (wR_get k (by omega)).trans (by rw [EX_sale cs ad k (mu k) h1 h2])
theorem gX_spurses (cs : Nat → ClassId) (ad : Nat → Nat) (mu : Nat → Nat → Int32) (k : Nat) (h1 : 117 ≤ k) (h2 : k < 157) : (wR 157 ad (EX cs ad) mu)[k]? = some (ad k, .inl (cs 0, 7, .inl (mu k))) := (wR_get k (by omega)).trans (by rw [EX_spurses cs ad k (mu k) h1 h2])
def clX (k : Nat) : Nat := if k < 4 then 0 else if k < 5 then 1 else if k < 6 then 2 else if k < 7 then 3 else if k < 8 then 4 else if k < 14 then 5 else if k < 18 then 6 else if k < 21 then 7 else if k < 27 then 8 else if k < 31 then 9 else if k < 32 then 10 else if k < 33 then 11 else if k < 35 then 12 else if k < 37 then 13 else if k < 50 then 14 else if k < 52 then 15 else if k < 54 then 16 else if k < 55 then 17 else if k < 57 then 18 else if k < 59 then 19 else if k < 60 then 20 else if k < 61 then 21 else if k < 77 then 22 else if k < 117 then 23 else 24
def loXc (c f : Nat) : Int := match c with
  | 1 => (match f with | 6 => 0 | 7 => 0 | _ => -2147483648)
  | 2 => (match f with | 4 => 0 | 5 => 0 | _ => -2147483648)
  | 3 => (match f with | 1 => 0 | _ => -2147483648)
  | 5 => (match f with | 1 => -1 | _ => -2147483648)
  | 6 => (match f with | 1 => -1 | _ => -2147483648)
  | 7 => (match f with | 4 => 0 | 5 => 0 | _ => -2147483648)
  | 9 => -128
  | 10 => (match f with | 4 => 0 | 5 => 0 | _ => -2147483648)
  | 11 => (match f with | 5 => 0 | 6 => 0 | _ => -2147483648)
  | 13 => 0
  | 15 => 0
  | 17 => 0
  | 18 => (match f with | 3 => 0 | 1 => 0 | _ => -2147483648)
  | 20 => 0
  | 22 => (match f with | 1 => 0 | 5 => 0 | 9 => 0 | _ => -2147483648)
  | 23 => (match f with | 1 => 0 | 2 => 0 | _ => -2147483648)
  | _ => -2147483648
def loX (k f : Nat) : Int := loXc (clX k) f
def hiXc (c f : Nat) : Int := match c with
  | 1 => (match f with | 6 => 7 | 7 => 12 | _ => 2147483647)
  | 2 => (match f with | 4 => 4 | 5 => 1 | _ => 2147483647)
  | 3 => (match f with | 1 => 40 | _ => 2147483647)
  | 5 => (match f with | 1 => 40 | _ => 2147483647)
  | 6 => (match f with | 1 => 80 | _ => 2147483647)
  | 7 => (match f with | 4 => 4 | 5 => 1 | _ => 2147483647)
  | 9 => 127
  | 10 => (match f with | 4 => 7 | 5 => 12 | _ => 2147483647)
  | 11 => (match f with | 5 => 6 | 6 => 6 | _ => 2147483647)
  | 13 => 6
  | 15 => 6
  | 17 => 6
  | 18 => (match f with | 3 => 1 | 1 => 6 | _ => 2147483647)
  | 20 => 6
  | 22 => (match f with | 1 => 6 | 5 => 6 | 9 => 1 | _ => 2147483647)
  | 23 => (match f with | 1 => 3 | 2 => 6 | _ => 2147483647)
  | _ => 2147483647
def hiX (k f : Nat) : Int := hiXc (clX k) f
theorem clX_row (k : Nat) (h1 : 8 ≤ k) (h2 : k < 14) : clX k = 5 := by
  unfold clX
  simp (discharger := omega) only [if_pos, if_neg]
theorem clX_text (k : Nat) (h1 : 14 ≤ k) (h2 : k < 18) : clX k = 6 := by
  unfold clX
  simp (discharger := omega) only [if_pos, if_neg]
theorem clX_kept (k : Nat) (h1 : 18 ≤ k) (h2 : k < 21) : clX k = 7 := by
  unfold clX
  simp (discharger := omega) only [if_pos, if_neg]
theorem clX_places (k : Nat) (h1 : 21 ≤ k) (h2 : k < 27) : clX k = 8 := by
  unfold clX
  simp (discharger := omega) only [if_pos, if_neg]
theorem clX_bytes (k : Nat) (h1 : 27 ≤ k) (h2 : k < 31) : clX k = 9 := by
  unfold clX
  simp (discharger := omega) only [if_pos, if_neg]
theorem clX_letter (k : Nat) (h1 : 61 ≤ k) (h2 : k < 77) : clX k = 22 := by
  unfold clX
  simp (discharger := omega) only [if_pos, if_neg]
theorem clX_sale (k : Nat) (h1 : 77 ≤ k) (h2 : k < 117) : clX k = 23 := by
  unfold clX
  simp (discharger := omega) only [if_pos, if_neg]
theorem clX_spurses (k : Nat) (h1 : 117 ≤ k) (h2 : k < 157) : clX k = 24 := by
  unfold clX
  simp (discharger := omega) only [if_pos, if_neg]
