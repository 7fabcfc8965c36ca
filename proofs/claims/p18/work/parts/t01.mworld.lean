def jn (a b : Int32) : Int64 := Int64.ofBitVec (a.toBitVec ++ b.toBitVec)
theorem jn_of (v : Int64) : ∃ a b : Int32, jn a b = v := by
  refine ⟨Int32.ofBitVec (v.toBitVec.extractLsb' 32 32), Int32.ofBitVec (v.toBitVec.extractLsb' 0 32), ?_⟩
  apply Int64.toBitVec_inj.mp
  show (v.toBitVec.extractLsb' 32 32 ++ v.toBitVec.extractLsb' 0 32) = v.toBitVec
  apply BitVec.eq_of_getLsbD_eq
  intro i hi
  rw [BitVec.getLsbD_append]
  by_cases h : i < 32
  · simp [h]
  · simp [h, show 32 + (i - 32) = i by omega]
    omega
def EM (cs : Nat → ClassId) (ad : Nat → Nat) (k : Nat) (g : Nat → Int32) : va_E := match k with
  | 0 => .inr (12, [.int (g 0), .ref (ad 1), .int (g 2), .ref (ad 2), .ref (ad 3), .ref (ad 4), .ref (ad 5), .ref (ad 6), .int (g 8), .ref (ad 7), .ref (ad 8), .int (g 11), .ref (ad 9), .int (g 13), .int (g 14), .int (g 15), .ref (ad 10), .int (g 17), .int (g 18), .int (g 19), .int (g 20), .ref (ad 11), .ref (ad 12), .ref (ad 13), .ref (ad 14), .ref (ad 15), .ref (ad 16), .ref (ad 17), .ref (ad 18), .int (g 29), .int (g 30), .int (g 31), .int (g 32), .int (g 33), .int (g 34), .int (g 35), .int (g 36), .int (g 37), .int (g 38), .int (g 39), .ref (ad 19), .ref (ad 20), .int (g 42), .int (g 43), .int (g 44), .long (jn (g 45) (g 46))])
  | 1 => .inl (cs 0, 6, .inl g)
  | 2 => .inl (cs 0, 6, .inl g)
  | 3 => .inl (cs 0, 240, .inl g)
  | 4 => .inl (cs 0, 40, .inl g)
  | 5 => .inl (cs 0, 4, .inl g)
  | 6 => .inl (cs 0, 320, .inl g)
  | 7 => .inl (cs 0, 7, .inl g)
  | 8 => .inl (cs 0, 7, .inl g)
  | 9 => .inl (cs 0, 24, .inl g)
  | 10 => .inl (cs 0, 40, .inl g)
  | 11 => .inl (cs 0, 7, .inl g)
  | 12 => .inl (cs 0, 7, .inl g)
  | 13 => .inl (cs 0, 24, .inl g)
  | 14 => .inl (cs 0, 480, .inl g)
  | 15 => .inl (cs 0, 192, .inl g)
  | 16 => .inl (cs 0, 7, .inl g)
  | 17 => .inl (cs 0, 7, .inl g)
  | 18 => .inl (cs 0, 7, .inl g)
  | 19 => .inl (cs 0, 7, .inl g)
  | _ => .inl (cs 0, 7, .inl g)
def tyM (cs : Nat → ClassId) : List (ClassId × FieldType) := [(cs 0, .int)]
theorem gM_0 (cs : Nat → ClassId) (ad : Nat → Nat) (mu : Nat → Nat → Int32) : (wR 21 ad (EM cs ad) mu)[0]? = some (ad 0, .inr (12, [.int (mu 0 0), .ref (ad 1), .int (mu 0 2), .ref (ad 2), .ref (ad 3), .ref (ad 4), .ref (ad 5), .ref (ad 6), .int (mu 0 8), .ref (ad 7), .ref (ad 8), .int (mu 0 11), .ref (ad 9), .int (mu 0 13), .int (mu 0 14), .int (mu 0 15), .ref (ad 10), .int (mu 0 17), .int (mu 0 18), .int (mu 0 19), .int (mu 0 20), .ref (ad 11), .ref (ad 12), .ref (ad 13), .ref (ad 14), .ref (ad 15), .ref (ad 16), .ref (ad 17), .ref (ad 18), .int (mu 0 29), .int (mu 0 30), .int (mu 0 31), .int (mu 0 32), .int (mu 0 33), .int (mu 0 34), .int (mu 0 35), .int (mu 0 36), .int (mu 0 37), .int (mu 0 38), .int (mu 0 39), .ref (ad 19), .ref (ad 20), .int (mu 0 42), .int (mu 0 43), .int (mu 0 44), .long (jn (mu 0 45) (mu 0 46))])) := wR_get 0 (by decide)
theorem gM_1 (cs : Nat → ClassId) (ad : Nat → Nat) (mu : Nat → Nat → Int32) : (wR 21 ad (EM cs ad) mu)[1]? = some (ad 1, .inl (cs 0, 6, .inl (mu 1))) := wR_get 1 (by decide)
theorem gM_2 (cs : Nat → ClassId) (ad : Nat → Nat) (mu : Nat → Nat → Int32) : (wR 21 ad (EM cs ad) mu)[2]? = some (ad 2, .inl (cs 0, 6, .inl (mu 2))) := wR_get 2 (by decide)
theorem gM_3 (cs : Nat → ClassId) (ad : Nat → Nat) (mu : Nat → Nat → Int32) : (wR 21 ad (EM cs ad) mu)[3]? = some (ad 3, .inl (cs 0, 240, .inl (mu 3))) := wR_get 3 (by decide)
theorem gM_4 (cs : Nat → ClassId) (ad : Nat → Nat) (mu : Nat → Nat → Int32) : (wR 21 ad (EM cs ad) mu)[4]? = some (ad 4, .inl (cs 0, 40, .inl (mu 4))) := wR_get 4 (by decide)
theorem gM_5 (cs : Nat → ClassId) (ad : Nat → Nat) (mu : Nat → Nat → Int32) : (wR 21 ad (EM cs ad) mu)[5]? = some (ad 5, .inl (cs 0, 4, .inl (mu 5))) := wR_get 5 (by decide)
theorem gM_6 (cs : Nat → ClassId) (ad : Nat → Nat) (mu : Nat → Nat → Int32) : (wR 21 ad (EM cs ad) mu)[6]? = some (ad 6, .inl (cs 0, 320, .inl (mu 6))) := wR_get 6 (by decide)
theorem gM_7 (cs : Nat → ClassId) (ad : Nat → Nat) (mu : Nat → Nat → Int32) : (wR 21 ad (EM cs ad) mu)[7]? = some (ad 7, .inl (cs 0, 7, .inl (mu 7))) := wR_get 7 (by decide)
theorem gM_8 (cs : Nat → ClassId) (ad : Nat → Nat) (mu : Nat → Nat → Int32) : (wR 21 ad (EM cs ad) mu)[8]? = some (ad 8, .inl (cs 0, 7, .inl (mu 8))) := wR_get 8 (by decide)
theorem gM_9 (cs : Nat → ClassId) (ad : Nat → Nat) (mu : Nat → Nat → Int32) : (wR 21 ad (EM cs ad) mu)[9]? = some (ad 9, .inl (cs 0, 24, .inl (mu 9))) := wR_get 9 (by decide)
theorem gM_10 (cs : Nat → ClassId) (ad : Nat → Nat) (mu : Nat → Nat → Int32) : (wR 21 ad (EM cs ad) mu)[10]? = some (ad 10, .inl (cs 0, 40, .inl (mu 10))) := wR_get 10 (by decide)
theorem gM_11 (cs : Nat → ClassId) (ad : Nat → Nat) (mu : Nat → Nat → Int32) : (wR 21 ad (EM cs ad) mu)[11]? = some (ad 11, .inl (cs 0, 7, .inl (mu 11))) := wR_get 11 (by decide)
theorem gM_12 (cs : Nat → ClassId) (ad : Nat → Nat) (mu : Nat → Nat → Int32) : (wR 21 ad (EM cs ad) mu)[12]? = some (ad 12, .inl (cs 0, 7, .inl (mu 12))) := wR_get 12 (by decide)
theorem gM_13 (cs : Nat → ClassId) (ad : Nat → Nat) (mu : Nat → Nat → Int32) : (wR 21 ad (EM cs ad) mu)[13]? = some (ad 13, .inl (cs 0, 24, .inl (mu 13))) := wR_get 13 (by decide)
theorem gM_14 (cs : Nat → ClassId) (ad : Nat → Nat) (mu : Nat → Nat → Int32) : (wR 21 ad (EM cs ad) mu)[14]? = some (ad 14, .inl (cs 0, 480, .inl (mu 14))) := wR_get 14 (by decide)
theorem gM_15 (cs : Nat → ClassId) (ad : Nat → Nat) (mu : Nat → Nat → Int32) : (wR 21 ad (EM cs ad) mu)[15]? = some (ad 15, .inl (cs 0, 192, .inl (mu 15))) := wR_get 15 (by decide)
theorem gM_16 (cs : Nat → ClassId) (ad : Nat → Nat) (mu : Nat → Nat → Int32) : (wR 21 ad (EM cs ad) mu)[16]? = some (ad 16, .inl (cs 0, 7, .inl (mu 16))) := wR_get 16 (by decide)
theorem gM_17 (cs : Nat → ClassId) (ad : Nat → Nat) (mu : Nat → Nat → Int32) : (wR 21 ad (EM cs ad) mu)[17]? = some (ad 17, .inl (cs 0, 7, .inl (mu 17))) := wR_get 17 (by decide)
theorem gM_18 (cs : Nat → ClassId) (ad : Nat → Nat) (mu : Nat → Nat → Int32) : (wR 21 ad (EM cs ad) mu)[18]? = some (ad 18, .inl (cs 0, 7, .inl (mu 18))) := wR_get 18 (by decide)
theorem gM_19 (cs : Nat → ClassId) (ad : Nat → Nat) (mu : Nat → Nat → Int32) : (wR 21 ad (EM cs ad) mu)[19]? = some (ad 19, .inl (cs 0, 7, .inl (mu 19))) := wR_get 19 (by decide)
theorem gM_20 (cs : Nat → ClassId) (ad : Nat → Nat) (mu : Nat → Nat → Int32) : (wR 21 ad (EM cs ad) mu)[20]? = some (ad 20, .inl (cs 0, 7, .inl (mu 20))) := wR_get 20 (by decide)
def clM (k : Nat) : Nat := if k < 1 then 0 else if k < 2 then 1 else if k < 3 then 2 else if k < 5 then 3 else if k < 6 then 4 else if k < 10 then 5 else if k < 11 then 6 else if k < 14 then 7 else if k < 15 then 8 else if k < 16 then 9 else if k < 17 then 10 else 11
def loMc (c f : Nat) : Int := match c with
  | 0 => (match f with | 8 => 0 | 11 => 0 | 15 => 0 | 17 => 0 | 18 => 0 | 19 => 0 | 20 => 0 | 32 => 0 | 38 => 0 | 39 => -9 | _ => -2147483648)
  | 2 => -9
  | 4 => -9
  | 6 => if f % 10 = 5 then 0 else -2147483648
  | 8 => if f % 12 = 0 then 0 else if f % 12 = 1 then 0 else -2147483648
  | 9 => if f % 64 = 2 then 0 else if f % 64 = 15 then 0 else if f % 64 = 25 then 0 else if f % 64 = 35 then 0 else if f % 64 = 45 then 0 else -2147483648
  | 10 => 0
  | _ => -2147483648
def loM (k f : Nat) : Int := loMc (clM k) f
def hiMc (c f : Nat) : Int := match c with
  | 0 => (match f with | 8 => 7 | 11 => 12 | 15 => 4 | 17 => 40 | 18 => 90 | 19 => 7 | 20 => 12 | 32 => 7 | 38 => 1 | 39 => 3 | _ => 2147483647)
  | 2 => 40
  | 4 => 80
  | 6 => if f % 10 = 5 then 6 else 2147483647
  | 8 => if f % 12 = 0 then 3 else if f % 12 = 1 then 6 else 2147483647
  | 9 => if f % 64 = 2 then 4 else if f % 64 = 15 then 6 else if f % 64 = 25 then 6 else if f % 64 = 35 then 6 else if f % 64 = 45 then 6 else 2147483647
  | 10 => 6
  | _ => 2147483647
def hiM (k f : Nat) : Int := hiMc (clM k) f
