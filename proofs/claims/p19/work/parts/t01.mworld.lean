def jn (a b : Int32) : Int64 := Int64.ofBitVec (a.toBitVec ++ b.toBitVec)
theorem jn_of (v : Int64) : ∃ a b : Int32, jn a b = v := by
  refine ⟨Int32.ofBitVec (v.toBitVec.extractLsb' 32 32), Int32.ofBitVec (v.toBitVec.extractLsb' 0 32), ?_⟩
  apply Int64.toBitVec_inj.mp
  show (v.toBitVec.extractLsb' 32 32 ++ v.toBitVec.extractLsb' 0 32) = v.toBitVec
  apply BitVec.eq_of_getLsbD_eq
  intro i hi
  rw [BitVec.getLsbD_append]
  by_cases h : i < 32
  · simp [h]
  · simp [h, show 32 + (i - 32) = i by omega]
    omega
def EM (cs : Nat → ClassId) (ad : Nat → Nat) (k : Nat) (g : Nat → Int32) : va_E := match k with
  | 0 => .inr (12, [.int (g 0), .ref (ad 1), .int (g 2), .ref (ad 2), .ref (ad 3), .ref (ad 4), .ref (ad 5), .ref (ad 6), .int (g 8), .ref (ad 7), .ref (ad 8), .int (g 11), .ref (ad 9), .int (g 13), .int (g 14), .int (g 15), .ref (ad 10), .int (g 17), .int (g 18), .int (g 19), .int (g 20), .ref (ad 11), .ref (ad 12), .ref (ad 13), .ref (ad 14), .ref (ad 15), .ref (ad 16), .ref (ad 17), .ref (ad 18), .int (g 29), .int (g 30), .int (g 31), .int (g 32), .int (g 33), .int (g 34), .int (g 35), .int (g 36), .int (g 37), .int (g 38), .int (g 39), .ref (ad 19), .ref (ad 20), .int (g 42), .int (g 43), .int (g 44), .long (jn (g 45) (g 46))])
  | 1 => .inl (cs 0, 6, .inl g)
  | 2 => .inl (cs 0, 6, .inl g)
  | 3 => .inl (cs 0, 240, .inl g)
  | 4 => .inl (cs 0, 40, .inl g)
  | 5 => .inl (cs 0, 4, .inl g)
  | 6 => .inl (cs 0, 320, .inl g)
  | 7 => .inl (cs 0, 7, .inl g)
  | 8 => .inl (cs 0, 7, .inl g)
  | 9 => .inl (cs 0, 24, .inl g)
  | 10 => .inl (cs 0, 40, .inl g)
  | 11 => .inl (cs 0, 7, .inl g)
  | 12 => .inl (cs 0, 7, .inl g)
  | 13 => .inl (cs 0, 24, .inl g)
  | 14 => .inl (cs 0, 480, .inl g)
  | 15 => .inl (cs 0, 192, .inl g)
  | 16 => .inl (cs 0, 7, .inl g)
  | 17 => .inl (cs 0, 7, .inl g)
  | 18 => .inl (cs 0, 7, .inl g)
  | 19 => .inl (cs 0, 7, .inl g)
  | _ => .inl (cs 0, 7, .inl g)
def tyM (cs : Nat → ClassId) : List (ClassId × FieldType) := [(cs 0, .int)]
theorem gM_0 (cs : Nat → ClassId) (ad : Nat → Nat) (mu : Nat → Nat → Int32) : (wR 21 ad (EM cs ad) mu)[0]? = some (ad 0, .inr (12, [.int (mu 0 0), .ref (ad 1), .int (mu 0 2), .ref (ad 2), .ref (ad 3), .ref (ad 4), .ref (ad 5), .ref (ad 6), .int (mu 0 8), .ref (ad 7), .ref (ad 8), .int (mu 0 11), .ref (ad 9), .int (mu 0 13), .int (mu 0 14), .int (mu 0 15), .ref (ad 10), .int (mu 0 17), .int (mu 0 18), .int (mu 0 19), .int (mu 0 20), .ref (ad 11), .ref (ad 12), .ref (ad 13), .ref (ad 14), .ref (ad 15), .ref (ad 16), .ref (ad 17), .ref (ad 18), .int (mu 0 29), .int (mu 0 30), .int (mu 0 31), .int (mu 0 32), .int (mu 0 33), .int (mu 0 34), .int (mu 0 35), .int (mu 0 36), .int (mu 0 37), .int (mu 0 38), .int (mu 0 39), .ref (ad 19), .ref (ad 20), .int (mu 0 42), .int (mu 0 43), .int (mu 0 44), .long (jn (mu 0 45) (mu 0 46))])) := wR_get 0 (by decide)
theorem gM_1 (cs : Nat → ClassId) (ad : Nat → Nat) (mu : Nat → Nat → Int32) : (wR 21 ad (EM cs ad) mu)[1]? = some (ad 1, .inl (cs 0, 6, .inl (mu 1))) := wR_get 1 (by decide)
theorem gM_2 (cs : Nat → ClassId) (ad : Nat → Nat) (mu : Nat → Nat → Int32) : (wR 21 ad (EM cs ad) mu)[2]? = some (ad 2, .inl (cs 0, 6, .inl (mu 2))) := wR_get 2 (by decide)
theorem gM_3 (cs : Nat → ClassId) (ad : Nat → Nat) (mu : Nat → Nat → Int32) : (wR 21 ad (EM cs ad) mu)[3]? = some (ad 3, .inl (cs 0, 240, .inl (mu 3))) := wR_get 3 (by decide)
theorem gM_4 (cs : Nat → ClassId) (ad : Nat → Nat) (mu : Nat → Nat → Int32) : (wR 21 ad (EM cs ad) mu)[4]? = some (ad 4, .inl (cs 0, 40, .inl (mu 4))) := wR_get 4 (by decide)
theorem gM_5 (cs : Nat → ClassId) (ad : Nat → Nat) (mu : Nat → Nat → Int32) : (wR 21 ad (EM cs ad) mu)[5]? = some (ad 5, .inl (cs 0, 4, .inl (mu 5))) := wR_get 5 (by decide)
theorem gM_6 (cs : Nat → ClassId) (ad : Nat → Nat) (mu : Nat → Nat → Int32) : (wR 21 ad (EM cs ad) mu)[6]? = some (ad 6, .inl (cs 0, 320, .inl (mu 6))) := wR_get 6 (by decide)
theorem gM_7 (cs : Nat → ClassId) (ad : Nat → Nat) (mu : Nat → Nat → Int32) : (wR 21 ad (EM cs ad) mu)[7]? = some (ad 7, .inl (cs 0, 7, .inl (mu 7))) := wR_get 7 (by decide)
theorem gM_8 (cs : Nat → ClassId) (ad : Nat → Nat) (mu : Nat → Nat → Int32) : (wR 21 ad (EM cs ad) mu)[8]? = some (ad 8, .inl (cs 0, 7, .inl (mu 8))) := wR_get 8 (by decide)
theorem gM_9 (cs : Nat → ClassId) (ad : Nat → Nat) (mu : Nat → Nat → Int32) : (wR 21 ad (EM cs ad) mu)[9]? = some (ad 9, .inl (cs 0, 24, .inl (mu 9))) := wR_get 9 (by decide)
theorem gM_10 (cs : Nat → ClassId) (ad : Nat → Nat) (mu : Nat → Nat → Int32) : (wR 21 ad (EM cs ad) mu)[10]? = some (ad 10, .inl (cs 0, 40, .inl (mu 10))) := wR_get 10 (by decide)
theorem gM_11 (cs : Nat → ClassId) (ad : Nat → Nat) (mu : Nat → Nat → Int32) : (wR 21 ad (EM cs ad) mu)[11]? = some (ad 11, .inl (cs 0, 7, .inl (mu 11))) := wR_get 11 (by decide)
theorem gM_12 (cs : Nat → ClassId) (ad : Nat → Nat) (mu : Nat → Nat → Int32) : (wR 21 ad (EM cs ad) mu)[12]? = some (ad 12, .inl (cs 0, 7, .inl (mu 12))) := wR_get 12 (by decide)
theorem gM_13 (cs : Nat → ClassId) (ad : Nat → Nat) (mu : Nat → Nat → Int32) : (wR 21 ad (EM cs ad) mu)[13]? = some (ad 13, .inl (cs 0, 24, .inl (mu 13))) := wR_get 13 (by decide)
theorem gM_14 (cs : Nat → ClassId) (ad : Nat → Nat) (mu : Nat → Nat → Int32) : (wR 21 ad (EM cs ad) mu)[14]? = some (ad 14, .inl (cs 0, 480, .inl (mu 14))) := wR_get 14 (by decide)
theorem gM_15 (cs : Nat → ClassId) (ad : Nat → Nat) (mu : Nat → Nat → Int32) : (wR 21 ad (EM cs ad) mu)[15]? = some (ad 15, .inl (cs 0, 192, .inl (mu 15))) := wR_get 15 (by decide)
theorem gM_16 (cs : Nat → ClassId) (ad : Nat → Nat) (mu : Nat → Nat → Int32) : (wR 21 ad (EM cs ad) mu)[16]? = some (ad 16, .inl (cs 0, 7, .inl (mu 16))) := wR_get 16 (by decide)
theorem gM_17 (cs : Nat → ClassId) (ad : Nat → Nat) (mu : Nat → Nat → Int32) : (wR 21 ad (EM cs ad) mu)[17]? = some (ad 17, .inl (cs 0, 7, .inl (mu 17))) := wR_get 17 (by decide)
theorem gM_18 (cs : Nat → ClassId) (ad : Nat → Nat) (mu : Nat → Nat → Int32) : (wR 21 ad (EM cs ad) mu)[18]? = some (ad 18, .inl (cs 0, 7, .inl (mu 18))) := wR_get 18 (by decide)
theorem gM_19 (cs : Nat → ClassId) (ad : Nat → Nat) (mu : Nat → Nat → Int32) : (wR 21 ad (EM cs ad) mu)[19]? = some (ad 19, .inl (cs 0, 7, .inl (mu 19))) := wR_get 19 (by decide)
theorem gM_20 (cs : Nat → ClassId) (ad : Nat → Nat) (mu : Nat → Nat → Int32) : (wR 21 ad (EM cs ad) mu)[20]? = some (ad 20, .inl (cs 0, 7, .inl (mu 20))) := wR_get 20 (by decide)
def clM (k : Nat) : Nat := if k < 1 then 0 else if k < 2 then 1 else if k < 3 then 2 else if k < 5 then 3 else if k < 6 then 4 else if k < 10 then 5 else if k < 11 then 6 else if k < 14 then 7 else if k < 15 then 8 else if k < 16 then 9 else if k < 17 then 10 else 11
def loMc (c f : Nat) : Int := match c with
  | 0 => (match f with | 8 => 0 | 11 => 0 | 15 => 0 | 17 => 0 | 18 => 0 | 19 => 0 | 20 => 0 | 32 => 0 | 38 => 0 | 39 => -9 | _ => -2147483648)
  | 2 => -9
  | 4 => -9
  | 6 => if f % 10 = 5 then 0 else -2147483648
  | 8 => if f % 12 = 0 then 0 else if f % 12 = 1 then 0 else -2147483648
  | 9 => if f % 64 = 2 then 0 else if f % 64 = 15 then 0 else if f % 64 = 25 then 0 else if f % 64 = 35 then 0 else if f % 64 = 45 then 0 else -2147483648
  | 10 => 0
  | _ => -2147483648
def loM (k f : Nat) : Int := loMc (clM k) f
def hiMc (c f : Nat) : Int := match c with
  | 0 => (match f with | 8 => 7 | 11 => 12 | 15 => 4 | 17 => 40 | 18 => 90 | 19 => 7 | 20 => 12 | 32 => 7 | 38 => 1 | 39 => 3 | _ => 2147483647)
  | 2 => 40
  | 4 => 80
  | 6 => if f % 10 = 5 then 6 else 2147483647
  | 8 => if f % 12 = 0 then 3 else if f % 12 = 1 then 6 else 2147483647
  | 9 => if f % 64 = 2 then 4 else if f % 64 = 15 then 6 else if f % 64 = 25 then 6 else if f % 64 = 35 then 6 else if f % 64 = 45 then 6 else 2147483647
  | 10 => 6
  | _ => 2147483647
def hiM (k f : Nat) : Int := hiMc (clM k) f
-- ===== bits (the family of the kit's BITS, what is used of it) =====
def bt (x : Int32) (i : Nat) : Bool := x.toBitVec.getLsbD i
theorem b_ext {x y : Int32} (h : ∀ i, i < 32 → bt x i = bt y i) : x = y := Int32.toBitVec_inj.mp (BitVec.eq_of_getLsbD_eq (fun i hi => h i hi))
theorem b_or (x y : Int32) (i : Nat) : bt (x ||| y) i = (bt x i || bt y i) := by unfold bt; rw [Int32.toBitVec_or, BitVec.getLsbD_or]
theorem b_and (x y : Int32) (i : Nat) : bt (x &&& y) i = (bt x i && bt y i) := by unfold bt; rw [Int32.toBitVec_and, BitVec.getLsbD_and]
theorem b_xor (x y : Int32) (i : Nat) : bt (x ^^^ y) i = (bt x i ^^ bt y i) := by unfold bt; rw [Int32.toBitVec_xor, BitVec.getLsbD_xor]
theorem b_m1 : ∀ i, i < 32 → bt (-1) i = true := by decide +kernel
theorem s_l : ∀ n, n < 32 → ((nI n &&& 31).toBitVec.smod 32).toNat = n := by decide +kernel
theorem b_shl (n : Nat) (hn : n < 32) (x : Int32) {i : Nat} (hi : i < 32) : bt (x <<< (nI n &&& 31)) i = (decide (n ≤ i) && bt x (i - n)) := by
  unfold bt
  rw [Int32.toBitVec_shiftLeft]
  show (x.toBitVec <<< ((nI n &&& 31).toBitVec.smod 32).toNat).getLsbD i = _
  rw [s_l n hn, BitVec.getLsbD_shiftLeft]
  rcases Nat.lt_or_ge i n with h | h
  · simp [h, Nat.not_le.mpr h]
  · simp [hi, h, Nat.not_lt.mpr h]
theorem b_sshr (n : Nat) (hn : n < 32) (x : Int32) {i : Nat} (hi : i < 32) : bt (x >>> (nI n &&& 31)) i = if n + i < 32 then bt x (n + i) else bt x 31 := by
  unfold bt
  rw [Int32.toBitVec_shiftRight]
  show (x.toBitVec.sshiftRight ((nI n &&& 31).toBitVec.smod 32).toNat).getLsbD i = _
  rw [s_l n hn, BitVec.getLsbD_sshiftRight, BitVec.msb_eq_getLsbD_last]
  simp [hi]
/-- what the reference's has() looks at -/
def rb (x k : Int32) : Int32 := (x >>> (k &&& 31)) &&& 1
theorem b_1 : ∀ i, i < 32 → bt 1 i = decide (i = 0) := by decide +kernel
theorem nI_at {k : Int32} (h : 0 ≤ k.toInt) : k = nI k.toNatClampNeg := by
  apply Int32.toInt_inj.mp
  have h1 := tC_of h
  have h2 := Int32.toInt_lt k
  rw [nI_toInt (by omega)]
  omega
theorem rb_bt {x k : Int32} (h1 : 0 ≤ k.toInt) (h2 : k.toInt ≤ 31) : rb x k = if bt x k.toNatClampNeg then 1 else 0 := by
  have h3 := tC_of h1
  have hn : k.toNatClampNeg < 32 := by omega
  rw [nI_at h1]
  have h4 : (nI k.toNatClampNeg).toNatClampNeg = k.toNatClampNeg := by rw [← nI_at h1]
  rw [h4]
  generalize k.toNatClampNeg = n at hn
  apply b_ext
  intro i hi
  unfold rb
  rw [b_and, b_sshr n hn x hi, b_1 i hi]
  by_cases c : i = 0
  · subst c
    simp only [Nat.add_zero, if_pos hn]
    cases bt x n <;> simp <;> decide
  · simp only [c, decide_false, Bool.and_false]
    have z0 : ∀ i, i < 32 → bt 0 i = false := by decide +kernel
    have z1 : ∀ i, i < 32 → i ≠ 0 → bt 1 i = false := by decide +kernel
    cases bt x n
    · exact (z0 i hi).symm
    · exact (z1 i hi c).symm
theorem rb_1 {x k : Int32} (h1 : 0 ≤ k.toInt) (h2 : k.toInt ≤ 31) : rb x k = 1 ↔ bt x k.toNatClampNeg = true := by
  rw [rb_bt h1 h2]
  cases bt x k.toNatClampNeg <;> simp
/-- a number of seven bits, as a number -/
def n7 (a : Nat) : Int32 := nI a
def pp (a : Nat) : Nat := a % 2 + a / 2 % 2 + a / 4 % 2 + a / 8 % 2 + a / 16 % 2 + a / 32 % 2 + a / 64 % 2
/-- of seven bits, n of them set -/
def h7 (n : Nat) (v : Int32) : Prop := 0 ≤ v.toInt ∧ v.toInt ≤ 127 ∧ pp v.toNatClampNeg = n
theorem h7_bt : ∀ a, a < 128 → ∀ x, x < 7 → bt (nI a) x = false → pp (nI a ||| ((1 : Int32) <<< (nI x &&& 31))).toNatClampNeg = pp a + 1 ∧ 0 ≤ (nI a ||| ((1 : Int32) <<< (nI x &&& 31))).toInt ∧ (nI a ||| ((1 : Int32) <<< (nI x &&& 31))).toInt ≤ 127 := by decide +kernel
theorem h7_all : ∀ a, a < 128 → pp a ≤ 7 ∧ (pp a = 7 → ∀ x, x < 7 → bt (nI a) x = true) := by decide +kernel
theorem o7_all : ∀ a, a < 128 → ∀ x, x < 7 → 0 ≤ (nI a ||| ((1 : Int32) <<< (nI x &&& 31))).toInt ∧ (nI a ||| ((1 : Int32) <<< (nI x &&& 31))).toInt ≤ 127 := by decide +kernel
theorem o7 {v x : Int32} (h1 : 0 ≤ v.toInt) (h2 : v.toInt ≤ 127) (h3 : 0 ≤ x.toInt) (h4 : x.toInt ≤ 6) : 0 ≤ (v ||| ((1 : Int32) <<< (x &&& 31))).toInt ∧ (v ||| ((1 : Int32) <<< (x &&& 31))).toInt ≤ 127 := by
  have e1 := tC_of h1
  have e2 := tC_of h3
  rw [nI_at h1, nI_at h3]
  exact o7_all _ (by omega) _ (by omega)
theorem h7_one {x : Int32} (h3 : 0 ≤ x.toInt) (h4 : x.toInt ≤ 6) : h7 1 ((1 : Int32) <<< (x &&& 31)) := by
  have e2 := tC_of h3
  rw [nI_at h3]
  have key : ∀ x, x < 7 → 0 ≤ ((1 : Int32) <<< (nI x &&& 31)).toInt ∧ ((1 : Int32) <<< (nI x &&& 31)).toInt ≤ 127 ∧ pp ((1 : Int32) <<< (nI x &&& 31)).toNatClampNeg = 1 := by decide +kernel
  exact key _ (by omega)
/-- one who isn't among 'had' yet, and is beside: one more then -/
theorem h7_next {n : Nat} {v b x near : Int32} (h : h7 n v) (hn : near = b &&& (v ^^^ (-1))) (h3 : 0 ≤ x.toInt) (h4 : x.toInt ≤ 6) (hr : rb near x = 1) : h7 (n + 1) (v ||| ((1 : Int32) <<< (x &&& 31))) := by
  obtain ⟨a1, a2, a3⟩ := h
  have e1 := tC_of a1
  have e2 := tC_of h3
  have hb := (rb_1 h3 (by omega)).mp hr
  rw [hn, b_and, b_xor, b_m1 _ (by omega)] at hb
  have hv : bt v x.toNatClampNeg = false := by
    cases hq : bt v x.toNatClampNeg
    · rfl
    · rw [hq] at hb
      simp at hb
  rw [nI_at a1] at hv
  have key := h7_bt _ (show v.toNatClampNeg < 128 by omega) _ (show x.toNatClampNeg < 7 by omega) hv
  rw [← nI_at a1, ← nI_at h3] at key
  exact ⟨key.2.1, key.2.2, by rw [key.1, a3]⟩
theorem h7_full {n : Nat} {v b x near : Int32} (h : h7 n v) (hn : near = b &&& (v ^^^ (-1))) (h3 : 0 ≤ x.toInt) (h4 : x.toInt ≤ 6) (hr : rb near x = 1) : n < 7 := by
  obtain ⟨a1, a2, a3⟩ := h
  have e1 := tC_of a1
  have e2 := tC_of h3
  have key := h7_all _ (show v.toNatClampNeg < 128 by omega)
  rw [a3] at key
  rcases Nat.lt_or_ge n 7 with c | c
  · exact c
  · have h9 := key.2 (by omega) x.toNatClampNeg (by omega)
    rw [← nI_at a1] at h9
    have hb := (rb_1 h3 (by omega)).mp hr
    rw [hn, b_and, b_xor, b_m1 _ (by omega), h9] at hb
    simp at hb
/-- set bits from place x on -/
def ab (a x : Nat) : Nat := pp (a / 2 ^ x)
theorem ab_s : ∀ a, a < 128 → ∀ x, x < 7 → ab a x = (if bt (nI a) x then 1 else 0) + ab a (x + 1) := by decide +kernel
theorem ab_7 : ∀ a, a < 128 → ab a 7 = 0 := by decide +kernel
theorem ab_0 (a : Nat) : ab a 0 = pp a := by unfold ab; simp
theorem pp_0 : ∀ a, a < 128 → pp a = 0 → a = 0 := by decide +kernel
theorem so_pp : ∀ a, a < 128 → ((((((((((((0 + rb (nI a) 0) + rb (nI a) 1) + rb (nI a) 2) + rb (nI a) 3) + rb (nI a) 4) + rb (nI a) 5) + rb (nI a) 6) + rb (nI a) 7) + rb (nI a) 8) + rb (nI a) 9) + rb (nI a) 10) + rb (nI a) 11) = nI (pp a) := by decide +kernel
/-- the reference's sizeOf() -/
def so (v : Int32) : Int32 := (((((((((((0 + rb v 0) + rb v 1) + rb v 2) + rb v 3) + rb v 4) + rb v 5) + rb v 6) + rb v 7) + rb v 8) + rb v 9) + rb v 10) + rb v 11
theorem so_7 {v : Int32} (h1 : 0 ≤ v.toInt) (h2 : v.toInt ≤ 127) : (so v).toInt = pp v.toNatClampNeg ∧ pp v.toNatClampNeg ≤ 7 ∧ (v.toInt = 0 ∨ 1 ≤ pp v.toNatClampNeg) := by
  have e1 := tC_of h1
  have hl : v.toNatClampNeg < 128 := by omega
  have h := so_pp _ hl
  have h3 := (h7_all _ hl).1
  rw [← nI_at h1] at h
  refine ⟨?_, h3, ?_⟩
  · show (((((((((((((0 + rb v 0) + rb v 1) + rb v 2) + rb v 3) + rb v 4) + rb v 5) + rb v 6) + rb v 7) + rb v 8) + rb v 9) + rb v 10) + rb v 11)).toInt = _
    rw [h, nI_toInt (by omega)]
  · rcases Nat.eq_zero_or_pos (pp v.toNatClampNeg) with c | c
    · left
      have := pp_0 _ hl c
      omega
    · right; exact c
theorem ab_step {v x : Int32} (h1 : 0 ≤ v.toInt) (h2 : v.toInt ≤ 127) (h3 : 0 ≤ x.toInt) (h4 : x.toInt ≤ 6) : (rb v x = 1 → ab v.toNatClampNeg x.toNatClampNeg = 1 + ab v.toNatClampNeg (x.toNatClampNeg + 1)) ∧ (¬ rb v x = 1 → ab v.toNatClampNeg x.toNatClampNeg = ab v.toNatClampNeg (x.toNatClampNeg + 1)) := by
  have e1 := tC_of h1
  have e2 := tC_of h3
  have h := ab_s _ (show v.toNatClampNeg < 128 by omega) _ (show x.toNatClampNeg < 7 by omega)
  rw [← nI_at h1] at h
  rw [rb_1 h3 (by omega)]
  constructor
  · intro c; rw [h, if_pos c]
  · intro c; rw [h, if_neg c]; omega
theorem lc_le {a b : Int64} {t : Int32} (h : t = lg_cmp a b) (ht : t.toInt ≤ 0) : a.toInt ≤ b.toInt := by
  rcases Int.lt_or_le b.toInt a.toInt with c | c
  · have h1 : b < a := Int64.lt_iff_toInt_lt.mpr c
    exfalso
    rw [h] at ht
    simp only [lg_cmp] at ht
    rw [if_pos h1] at ht
    exact absurd ht (by decide)
  · exact c
theorem lc_add {x y z : Int32} {t : Int32} {la lb lc ld : Int64} (h : t = lg_cmp lc ld) (h1 : la = x.toInt64) (h2 : lb = y.toInt64) (h3 : lc = la + lb) (h4 : ld = z.toInt64) : t.toInt ≤ 0 → x.toInt + y.toInt ≤ z.toInt := fun ht => by
  have h9 := lc_le h ht
  rw [h3, h4, h1, h2, Int64.toInt_add, Int32.toInt_toInt64, Int32.toInt_toInt64, Int32.toInt_toInt64] at h9
  have e1 := tI_lo x; have e2 := tI_hi x; have e3 := tI_lo y; have e4 := tI_hi y
  rw [Int.bmod_eq_of_le (by omega) (by omega)] at h9
  exact h9
theorem rem_lt {x y : Int32} (h : ¬ y.toInt = 0) : (x % y).toInt.natAbs < y.toInt.natAbs := by
  rw [Int32.toInt_mod, Int.natAbs_tmod]
  exact Nat.mod_lt _ (by omega)
theorem lrem_rng {a b : Int64} {c : Int} (h1 : 0 ≤ a.toInt) (hb : b.toInt = c) (hc : 0 < c) : 0 ≤ (a % b).toInt ∧ (a % b).toInt < c := by
  rw [Int64.toInt_mod, hb]
  exact ⟨Int.tmod_nonneg _ h1, Int.tmod_lt_of_pos _ hc⟩
theorem l2i_of {a : Int64} {t : Int32} (h : t = a.toInt32) (h1 : 0 ≤ a.toInt) (h2 : a.toInt < 2147483648) : t.toInt = a.toInt := by
  rw [h, Int64.toInt_toInt32]
  exact Int.bmod_eq_of_le (by omega) (by omega)
theorem lot_rng {n l1 l2 : Int64} (h : 0 ≤ n.toInt ∧ n.toInt ≤ 2147483646) (h1 : l1 = 48271 * n) (h2 : l2 = l1 % 2147483647) : 0 ≤ l2.toInt ∧ l2.toInt ≤ 2147483646 := by
  have e : l1.toInt = 48271 * n.toInt := by
    rw [h1, Int64.toInt_mul]
    exact Int.bmod_eq_of_le (by show _ ≤ (48271 : Int) * n.toInt; omega) (by show (48271 : Int) * n.toInt < _; omega)
  have h9 := lrem_rng (a := l1) (b := 2147483647) (c := 2147483647) (by omega) rfl (by decide)
  rw [h2]
  omega
theorem mw_5_189 : (Cond.code yX12_in cX12_in 3 (some .boolean) : Cond) ∈ lw_good := lg_at 5 189 rfl rfl
theorem mw_5_187 : (Cond.methodLink RX12 77 yX12_in : Cond) ∈ lw_good := lg_at 5 187 rfl rfl
theorem mw_5_188 : (Cond.static yX12_in : Cond) ∈ lw_good := lg_at 5 188 rfl rfl
theorem mw_1_13 : (Cond.initialized RX12 : Cond) ∈ lw_good := lg_at 1 13 rfl rfl
theorem mw_5_41 : (Cond.fieldLink RX12 70 "DearLettersModel" "finding" "I" : Cond) ∈ lw_good := lg_at 5 41 rfl rfl
theorem mw_5_42 : (Cond.fieldLink RX12 7 "DearLettersModel" "findings" "[I" : Cond) ∈ lw_good := lg_at 5 42 rfl rfl
theorem mw_5_43 : (Cond.fieldLink RX12 74 "DearLettersModel" "asked" "I" : Cond) ∈ lw_good := lg_at 5 43 rfl rfl
theorem mw_5_186 : (Cond.code yX12_isRow cX12_isRow 1 (some .boolean) : Cond) ∈ lw_good := lg_at 5 186 rfl rfl
theorem mw_5_184 : (Cond.methodLink RX12 81 yX12_isRow : Cond) ∈ lw_good := lg_at 5 184 rfl rfl
theorem mw_5_185 : (Cond.static yX12_isRow : Cond) ∈ lw_good := lg_at 5 185 rfl rfl
theorem mw_5_44 : (Cond.fieldLink RX12 13 "DearLettersModel" "sizes" "[I" : Cond) ∈ lw_good := lg_at 5 44 rfl rfl
theorem mw_5_193 : (Cond.code yX12_meet cX12_meet 2 (some .int) : Cond) ∈ lw_good := lg_at 5 193 rfl rfl
theorem mw_5_190 : (Cond.methodLink RX12 85 yX12_meet : Cond) ∈ lw_good := lg_at 5 190 rfl rfl
theorem mw_5_192 : (Cond.instanceMethod yX12_meet : Cond) ∈ lw_good := lg_at 5 192 rfl rfl
theorem mw_0_26 : (Cond.selects RX12 yX12_meet yX12_meet : Cond) ∈ lw_good := lg_at 0 26 rfl rfl
theorem mw_5_237 : (Cond.code yX12_isText cX12_isText 1 (some .boolean) : Cond) ∈ lw_good := lg_at 5 237 rfl rfl
theorem mw_5_235 : (Cond.methodLink RX12 89 yX12_isText : Cond) ∈ lw_good := lg_at 5 235 rfl rfl
theorem mw_5_236 : (Cond.static yX12_isText : Cond) ∈ lw_good := lg_at 5 236 rfl rfl
theorem mw_5_47 : (Cond.fieldLink RX12 22 "DearLettersModel" "lengths" "[I" : Cond) ∈ lw_good := lg_at 5 47 rfl rfl
theorem mw_5_45 : (Cond.fieldLink RX12 16 "DearLettersModel" "rows" "[I" : Cond) ∈ lw_good := lg_at 5 45 rfl rfl
theorem hM_0_0 (cs : Nat → ClassId) (ad : Nat → Nat) (g : Nat → Int32) (v : Int32) : EM cs ad 0 (upd g 0 v) = .inr (12, [.int v, .ref (ad 1), .int (g 2), .ref (ad 2), .ref (ad 3), .ref (ad 4), .ref (ad 5), .ref (ad 6), .int (g 8), .ref (ad 7), .ref (ad 8), .int (g 11), .ref (ad 9), .int (g 13), .int (g 14), .int (g 15), .ref (ad 10), .int (g 17), .int (g 18), .int (g 19), .int (g 20), .ref (ad 11), .ref (ad 12), .ref (ad 13), .ref (ad 14), .ref (ad 15), .ref (ad 16), .ref (ad 17), .ref (ad 18), .int (g 29), .int (g 30), .int (g 31), .int (g 32), .int (g 33), .int (g 34), .int (g 35), .int (g 36), .int (g 37), .int (g 38), .int (g 39), .ref (ad 19), .ref (ad 20), .int (g 42), .int (g 43), .int (g 44), .long (jn (g 45) (g 46))]) := by
  rfl
theorem tM_0_0 {mu : Nat → Nat → Int32} (ok : okR loM hiM mu) {nu : Nat → Nat → Int32} {v : Int32} (hn : va_up mu 0 (upd (mu 0) 0 v) = nu) : okR loM hiM nu := by
  subst hn
  exact okR_up ok 0 0 v (tI_lo v) (tI_hi v)
theorem tM_1_s {mu : Nat → Nat → Int32} (ok : okR loM hiM mu) {nu : Nat → Nat → Int32} {v : Int32} (f : Nat) (hn : va_up mu 1 (upd (mu 1) f v) = nu) : okR loM hiM nu := by
  subst hn
  exact okR_up ok 1 f v (tI_lo v) (tI_hi v)
theorem hM_0_2 (cs : Nat → ClassId) (ad : Nat → Nat) (g : Nat → Int32) (v : Int32) : EM cs ad 0 (upd g 2 v) = .inr (12, [.int (g 0), .ref (ad 1), .int v, .ref (ad 2), .ref (ad 3), .ref (ad 4), .ref (ad 5), .ref (ad 6), .int (g 8), .ref (ad 7), .ref (ad 8), .int (g 11), .ref (ad 9), .int (g 13), .int (g 14), .int (g 15), .ref (ad 10), .int (g 17), .int (g 18), .int (g 19), .int (g 20), .ref (ad 11), .ref (ad 12), .ref (ad 13), .ref (ad 14), .ref (ad 15), .ref (ad 16), .ref (ad 17), .ref (ad 18), .int (g 29), .int (g 30), .int (g 31), .int (g 32), .int (g 33), .int (g 34), .int (g 35), .int (g 36), .int (g 37), .int (g 38), .int (g 39), .ref (ad 19), .ref (ad 20), .int (g 42), .int (g 43), .int (g 44), .long (jn (g 45) (g 46))]) := by
  rfl
theorem tM_0_2 {mu : Nat → Nat → Int32} (ok : okR loM hiM mu) {nu : Nat → Nat → Int32} {v : Int32} (hn : va_up mu 0 (upd (mu 0) 2 v) = nu) : okR loM hiM nu := by
  subst hn
  exact okR_up ok 0 2 v (tI_lo v) (tI_hi v)
theorem rM_2_s {mu : Nat → Nat → Int32} (ok : okR loM hiM mu) (f : Nat) : -9 ≤ (mu 2 f).toInt ∧ (mu 2 f).toInt ≤ 40 := ok 2 f
theorem rM_5_s {mu : Nat → Nat → Int32} (ok : okR loM hiM mu) (f : Nat) : -9 ≤ (mu 5 f).toInt ∧ (mu 5 f).toInt ≤ 80 := ok 5 f
theorem tM_3_s {mu : Nat → Nat → Int32} (ok : okR loM hiM mu) {nu : Nat → Nat → Int32} {v : Int32} (f : Nat) (hn : va_up mu 3 (upd (mu 3) f v) = nu) : okR loM hiM nu := by
  subst hn
  exact okR_up ok 3 f v (tI_lo v) (tI_hi v)
theorem dX12_in_0 : decode cX12_in 0 = .ok (.iload_n 0, 1) := by decide +kernel
theorem dX12_in_1 : decode cX12_in 1 = .ok (.iload_n 1, 1) := by decide +kernel
theorem dX12_in_2 : decode cX12_in 2 = .ok (.if_icmp .lt 12, 3) := by decide +kernel
theorem dX12_in_14 : decode cX12_in 14 = .ok (.iconst 0, 1) := by decide +kernel
theorem dX12_in_15 : decode cX12_in 15 = .ok (.ireturn, 1) := by decide +kernel
theorem dX12_in_5 : decode cX12_in 5 = .ok (.iload_n 0, 1) := by decide +kernel
theorem dX12_in_6 : decode cX12_in 6 = .ok (.iload_n 2, 1) := by decide +kernel
theorem dX12_in_7 : decode cX12_in 7 = .ok (.if_icmp .gt 7, 3) := by decide +kernel
theorem dX12_in_10 : decode cX12_in 10 = .ok (.iconst 1, 1) := by decide +kernel
theorem dX12_in_11 : decode cX12_in 11 = .ok (.goto 4, 3) := by decide +kernel
theorem dX12_has_0 : decode cX12_has 0 = .ok (.iload_n 0, 1) := by decide +kernel
theorem dX12_has_1 : decode cX12_has 1 = .ok (.iload_n 1, 1) := by decide +kernel
theorem dX12_has_2 : decode cX12_has 2 = .ok (.ishr, 1) := by decide +kernel
theorem dX12_has_3 : decode cX12_has 3 = .ok (.iconst 1, 1) := by decide +kernel
theorem dX12_has_4 : decode cX12_has 4 = .ok (.iand, 1) := by decide +kernel
theorem dX12_has_5 : decode cX12_has 5 = .ok (.iconst 1, 1) := by decide +kernel
theorem dX12_has_6 : decode cX12_has 6 = .ok (.if_icmp .ne 7, 3) := by decide +kernel
theorem dX12_has_13 : decode cX12_has 13 = .ok (.iconst 0, 1) := by decide +kernel
theorem dX12_has_14 : decode cX12_has 14 = .ok (.ireturn, 1) := by decide +kernel
theorem dX12_has_9 : decode cX12_has 9 = .ok (.iconst 1, 1) := by decide +kernel
theorem dX12_has_10 : decode cX12_has 10 = .ok (.goto 4, 3) := by decide +kernel
theorem dX12_sizeOf_0 : decode cX12_sizeOf 0 = .ok (.iconst 0, 1) := by decide +kernel
theorem dX12_sizeOf_1 : decode cX12_sizeOf 1 = .ok (.istore_n 1, 1) := by decide +kernel
theorem dX12_sizeOf_2 : decode cX12_sizeOf 2 = .ok (.iconst 0, 1) := by decide +kernel
theorem dX12_sizeOf_3 : decode cX12_sizeOf 3 = .ok (.istore_n 2, 1) := by decide +kernel
theorem dX12_sizeOf_4 : decode cX12_sizeOf 4 = .ok (.iload_n 2, 1) := by decide +kernel
theorem dX12_sizeOf_5 : decode cX12_sizeOf 5 = .ok (.bipush 12, 2) := by decide +kernel
theorem dX12_sizeOf_7 : decode cX12_sizeOf 7 = .ok (.if_icmp .ge 17, 3) := by decide +kernel
theorem dX12_sizeOf_10 : decode cX12_sizeOf 10 = .ok (.iload_n 1, 1) := by decide +kernel
theorem dX12_sizeOf_11 : decode cX12_sizeOf 11 = .ok (.iload_n 0, 1) := by decide +kernel
theorem dX12_sizeOf_12 : decode cX12_sizeOf 12 = .ok (.iload_n 2, 1) := by decide +kernel
theorem dX12_sizeOf_13 : decode cX12_sizeOf 13 = .ok (.ishr, 1) := by decide +kernel
theorem dX12_sizeOf_14 : decode cX12_sizeOf 14 = .ok (.iconst 1, 1) := by decide +kernel
theorem dX12_sizeOf_15 : decode cX12_sizeOf 15 = .ok (.iand, 1) := by decide +kernel
theorem dX12_sizeOf_16 : decode cX12_sizeOf 16 = .ok (.iadd, 1) := by decide +kernel
theorem dX12_sizeOf_17 : decode cX12_sizeOf 17 = .ok (.istore_n 1, 1) := by decide +kernel
theorem dX12_sizeOf_18 : decode cX12_sizeOf 18 = .ok (.iinc 2 1, 3) := by decide +kernel
theorem dX12_sizeOf_21 : decode cX12_sizeOf 21 = .ok (.goto (-17), 3) := by decide +kernel
theorem dX12_sizeOf_24 : decode cX12_sizeOf 24 = .ok (.iload_n 1, 1) := by decide +kernel
theorem dX12_sizeOf_25 : decode cX12_sizeOf 25 = .ok (.ireturn, 1) := by decide +kernel
theorem dX12_isRow_0 : decode cX12_isRow 0 = .ok (.iload_n 0, 1) := by decide +kernel
theorem dX12_isRow_1 : decode cX12_isRow 1 = .ok (.iconst 0, 1) := by decide +kernel
theorem dX12_isRow_2 : decode cX12_isRow 2 = .ok (.iconst 5, 1) := by decide +kernel
theorem dX12_isRow_3 : decode cX12_isRow 3 = .ok (.invokestatic 77, 3) := by decide +kernel
theorem dX12_isRow_6 : decode cX12_isRow 6 = .ok (.ireturn, 1) := by decide +kernel
theorem dX12_isText_0 : decode cX12_isText 0 = .ok (.iload_n 0, 1) := by decide +kernel
theorem dX12_isText_1 : decode cX12_isText 1 = .ok (.iconst 0, 1) := by decide +kernel
theorem dX12_isText_2 : decode cX12_isText 2 = .ok (.iconst 3, 1) := by decide +kernel
theorem dX12_isText_3 : decode cX12_isText 3 = .ok (.invokestatic 77, 3) := by decide +kernel
theorem dX12_isText_6 : decode cX12_isText 6 = .ok (.ireturn, 1) := by decide +kernel
theorem dX12_meet_0 : decode cX12_meet 0 = .ok (.aload_n 0, 1) := by decide +kernel
theorem dX12_meet_1 : decode cX12_meet 1 = .ok (.iload_n 1, 1) := by decide +kernel
theorem dX12_meet_2 : decode cX12_meet 2 = .ok (.putfield 70, 3) := by decide +kernel
theorem dX12_meet_5 : decode cX12_meet 5 = .ok (.aload_n 0, 1) := by decide +kernel
theorem dX12_meet_6 : decode cX12_meet 6 = .ok (.getfield 7, 3) := by decide +kernel
theorem dX12_meet_9 : decode cX12_meet 9 = .ok (.iload_n 1, 1) := by decide +kernel
theorem dX12_meet_10 : decode cX12_meet 10 = .ok (.dup2, 1) := by decide +kernel
theorem dX12_meet_11 : decode cX12_meet 11 = .ok (.iaload, 1) := by decide +kernel
theorem dX12_meet_12 : decode cX12_meet 12 = .ok (.iconst 1, 1) := by decide +kernel
theorem dX12_meet_13 : decode cX12_meet 13 = .ok (.iadd, 1) := by decide +kernel
theorem dX12_meet_14 : decode cX12_meet 14 = .ok (.iastore, 1) := by decide +kernel
theorem dX12_meet_15 : decode cX12_meet 15 = .ok (.bipush (-3), 2) := by decide +kernel
theorem dX12_meet_17 : decode cX12_meet 17 = .ok (.ireturn, 1) := by decide +kernel
theorem dX12_ask_0 : decode cX12_ask 0 = .ok (.aload_n 0, 1) := by decide +kernel
theorem dX12_ask_1 : decode cX12_ask 1 = .ok (.iload_n 1, 1) := by decide +kernel
theorem dX12_ask_2 : decode cX12_ask 2 = .ok (.putfield 74, 3) := by decide +kernel
theorem dX12_ask_5 : decode cX12_ask 5 = .ok (.iload_n 2, 1) := by decide +kernel
theorem dX12_ask_6 : decode cX12_ask 6 = .ok (.ireturn, 1) := by decide +kernel
theorem dX12_askedRow_0 : decode cX12_askedRow 0 = .ok (.iload_n 1, 1) := by decide +kernel
theorem dX12_askedRow_1 : decode cX12_askedRow 1 = .ok (.invokestatic 81, 3) := by decide +kernel
theorem dX12_askedRow_4 : decode cX12_askedRow 4 = .ok (.ifCond .ne 7, 3) := by decide +kernel
theorem dX12_askedRow_11 : decode cX12_askedRow 11 = .ok (.aload_n 0, 1) := by decide +kernel
theorem dX12_askedRow_12 : decode cX12_askedRow 12 = .ok (.getfield 13, 3) := by decide +kernel
theorem dX12_askedRow_15 : decode cX12_askedRow 15 = .ok (.iload_n 1, 1) := by decide +kernel
theorem dX12_askedRow_16 : decode cX12_askedRow 16 = .ok (.iaload, 1) := by decide +kernel
theorem dX12_askedRow_17 : decode cX12_askedRow 17 = .ok (.ifCond .ge 11, 3) := by decide +kernel
theorem dX12_askedRow_28 : decode cX12_askedRow 28 = .ok (.iconst 0, 1) := by decide +kernel
theorem dX12_askedRow_29 : decode cX12_askedRow 29 = .ok (.ireturn, 1) := by decide +kernel
theorem dX12_askedRow_20 : decode cX12_askedRow 20 = .ok (.aload_n 0, 1) := by decide +kernel
theorem dX12_askedRow_21 : decode cX12_askedRow 21 = .ok (.iconst 1, 1) := by decide +kernel
theorem dX12_askedRow_22 : decode cX12_askedRow 22 = .ok (.invokevirtual 85, 3) := by decide +kernel
theorem dX12_askedRow_25 : decode cX12_askedRow 25 = .ok (.goto 4, 3) := by decide +kernel
theorem dX12_askedRow_7 : decode cX12_askedRow 7 = .ok (.iconst (-1), 1) := by decide +kernel
theorem dX12_askedRow_8 : decode cX12_askedRow 8 = .ok (.goto 21, 3) := by decide +kernel
theorem dX12_askedText_0 : decode cX12_askedText 0 = .ok (.iload_n 1, 1) := by decide +kernel
theorem dX12_askedText_1 : decode cX12_askedText 1 = .ok (.invokestatic 89, 3) := by decide +kernel
theorem dX12_askedText_4 : decode cX12_askedText 4 = .ok (.ifCond .ne 7, 3) := by decide +kernel
theorem dX12_askedText_11 : decode cX12_askedText 11 = .ok (.aload_n 0, 1) := by decide +kernel
theorem dX12_askedText_12 : decode cX12_askedText 12 = .ok (.getfield 22, 3) := by decide +kernel
theorem dX12_askedText_15 : decode cX12_askedText 15 = .ok (.iload_n 1, 1) := by decide +kernel
theorem dX12_askedText_16 : decode cX12_askedText 16 = .ok (.iaload, 1) := by decide +kernel
theorem dX12_askedText_17 : decode cX12_askedText 17 = .ok (.ifCond .ge 11, 3) := by decide +kernel
theorem dX12_askedText_28 : decode cX12_askedText 28 = .ok (.iconst 0, 1) := by decide +kernel
theorem dX12_askedText_29 : decode cX12_askedText 29 = .ok (.ireturn, 1) := by decide +kernel
theorem dX12_askedText_20 : decode cX12_askedText 20 = .ok (.aload_n 0, 1) := by decide +kernel
theorem dX12_askedText_21 : decode cX12_askedText 21 = .ok (.iconst 1, 1) := by decide +kernel
theorem dX12_askedText_22 : decode cX12_askedText 22 = .ok (.invokevirtual 85, 3) := by decide +kernel
theorem dX12_askedText_25 : decode cX12_askedText 25 = .ok (.goto 4, 3) := by decide +kernel
theorem dX12_askedText_7 : decode cX12_askedText 7 = .ok (.iconst (-1), 1) := by decide +kernel
theorem dX12_askedText_8 : decode cX12_askedText 8 = .ok (.goto 21, 3) := by decide +kernel
theorem dX12_rowAt_0 : decode cX12_rowAt 0 = .ok (.aload_n 0, 1) := by decide +kernel
theorem dX12_rowAt_1 : decode cX12_rowAt 1 = .ok (.getfield 16, 3) := by decide +kernel
theorem dX12_rowAt_4 : decode cX12_rowAt 4 = .ok (.bipush 40, 2) := by decide +kernel
theorem dX12_rowAt_6 : decode cX12_rowAt 6 = .ok (.iload_n 1, 1) := by decide +kernel
theorem dX12_rowAt_7 : decode cX12_rowAt 7 = .ok (.imul, 1) := by decide +kernel
theorem dX12_rowAt_8 : decode cX12_rowAt 8 = .ok (.iload_n 2, 1) := by decide +kernel
theorem dX12_rowAt_9 : decode cX12_rowAt 9 = .ok (.iadd, 1) := by decide +kernel
theorem dX12_rowAt_10 : decode cX12_rowAt 10 = .ok (.iaload, 1) := by decide +kernel
theorem dX12_rowAt_11 : decode cX12_rowAt 11 = .ok (.ireturn, 1) := by decide +kernel
theorem dX12_setRow_0 : decode cX12_setRow 0 = .ok (.aload_n 0, 1) := by decide +kernel
theorem dX12_setRow_1 : decode cX12_setRow 1 = .ok (.getfield 16, 3) := by decide +kernel
theorem dX12_setRow_4 : decode cX12_setRow 4 = .ok (.bipush 40, 2) := by decide +kernel
theorem dX12_setRow_6 : decode cX12_setRow 6 = .ok (.iload_n 1, 1) := by decide +kernel
theorem dX12_setRow_7 : decode cX12_setRow 7 = .ok (.imul, 1) := by decide +kernel
theorem dX12_setRow_8 : decode cX12_setRow 8 = .ok (.iload_n 2, 1) := by decide +kernel
theorem dX12_setRow_9 : decode cX12_setRow 9 = .ok (.iadd, 1) := by decide +kernel
theorem dX12_setRow_10 : decode cX12_setRow 10 = .ok (.iload_n 3, 1) := by decide +kernel
theorem dX12_setRow_11 : decode cX12_setRow 11 = .ok (.iastore, 1) := by decide +kernel
theorem dX12_setRow_12 : decode cX12_setRow 12 = .ok (.return_, 1) := by decide +kernel
def F_sm_in (va : Int32) (vb : Int32) (vc : Int32) : Int32 :=
  if va < vb then (
    (0 : Int32)
  ) else (
    if va > vc then (
      (0 : Int32)
    ) else (
      (1 : Int32)
    )
  )
def F_sm_has (va : Int32) (vb : Int32) : Int32 :=
  LETV (va >>> (vb &&& 31) : Int32) fun t1 =>
  LETV (t1 &&& 1 : Int32) fun t2 =>
  if t2 = (1 : Int32) then (
    (1 : Int32)
  ) else (
    (0 : Int32)
  )
def F_sm_sizeOf (va : Int32) : Int32 :=
  LETV (va >>> (0 &&& 31) : Int32) fun t1 =>
  LETV (t1 &&& 1 : Int32) fun t2 =>
  LETV (0 + t2 : Int32) fun t3 =>
  LETV (va >>> (1 &&& 31) : Int32) fun t4 =>
  LETV (t4 &&& 1 : Int32) fun t5 =>
  LETV (t3 + t5 : Int32) fun t6 =>
  LETV (va >>> (2 &&& 31) : Int32) fun t7 =>
  LETV (t7 &&& 1 : Int32) fun t8 =>
  LETV (t6 + t8 : Int32) fun t9 =>
  LETV (va >>> (3 &&& 31) : Int32) fun t10 =>
  LETV (t10 &&& 1 : Int32) fun t11 =>
  LETV (t9 + t11 : Int32) fun t12 =>
  LETV (va >>> (4 &&& 31) : Int32) fun t13 =>
  LETV (t13 &&& 1 : Int32) fun t14 =>
  LETV (t12 + t14 : Int32) fun t15 =>
  LETV (va >>> (5 &&& 31) : Int32) fun t16 =>
  LETV (t16 &&& 1 : Int32) fun t17 =>
  LETV (t15 + t17 : Int32) fun t18 =>
  LETV (va >>> (6 &&& 31) : Int32) fun t19 =>
  LETV (t19 &&& 1 : Int32) fun t20 =>
  LETV (t18 + t20 : Int32) fun t21 =>
  LETV (va >>> (7 &&& 31) : Int32) fun t22 =>
  LETV (t22 &&& 1 : Int32) fun t23 =>
  LETV (t21 + t23 : Int32) fun t24 =>
  LETV (va >>> (8 &&& 31) : Int32) fun t25 =>
  LETV (t25 &&& 1 : Int32) fun t26 =>
  LETV (t24 + t26 : Int32) fun t27 =>
  LETV (va >>> (9 &&& 31) : Int32) fun t28 =>
  LETV (t28 &&& 1 : Int32) fun t29 =>
  LETV (t27 + t29 : Int32) fun t30 =>
  LETV (va >>> (10 &&& 31) : Int32) fun t31 =>
  LETV (t31 &&& 1 : Int32) fun t32 =>
  LETV (t30 + t32 : Int32) fun t33 =>
  LETV (va >>> (11 &&& 31) : Int32) fun t34 =>
  LETV (t34 &&& 1 : Int32) fun t35 =>
  LETV (t33 + t35 : Int32) fun t36 =>
  (t36 : Int32)
def F_sm_isRow (va : Int32) : Int32 :=
  if F_sm_in (va : Int32) (0 : Int32) (5 : Int32) = 1 then (
    (1 : Int32)
  ) else (
    (0 : Int32)
  )
def F_sm_isText (va : Int32) : Int32 :=
  if F_sm_in (va : Int32) (0 : Int32) (3 : Int32) = 1 then (
    (1 : Int32)
  ) else (
    (0 : Int32)
  )
def F_sm_meet (mu : Nat → Nat → Int32) (vw : Int32) : Int32 × (Nat → Nat → Int32) :=
  LETV (va_up mu 0 (upd (mu 0) 0 vw) : Nat → Nat → Int32) fun nu1 =>
  LETV (nu1 1 vw.toNatClampNeg : Int32) fun y4 =>
  LETV (y4 + 1 : Int32) fun t5 =>
  LETV (va_up nu1 1 (upd (nu1 1) vw.toNatClampNeg t5) : Nat → Nat → Int32) fun nu6 =>
  (((-3) : Int32), nu6)
def F_sm_ask (mu : Nat → Nat → Int32) (va : Int32) (vb : Int32) : Int32 × (Nat → Nat → Int32) :=
  LETV (va_up mu 0 (upd (mu 0) 2 va) : Nat → Nat → Int32) fun nu1 =>
  ((vb : Int32), nu1)
def F_sm_askedRow (mu : Nat → Nat → Int32) (vr : Int32) : Int32 × (Nat → Nat → Int32) :=
  if F_sm_isRow (vr : Int32) = 1 then (
    LETV (mu 2 vr.toNatClampNeg : Int32) fun y2 =>
    if y2 ≥ (0 : Int32) then (
      ((0 : Int32), mu)
    ) else (
      LETP (F_sm_meet mu (1 : Int32)) fun r5 xi5 =>
      ((r5 : Int32), xi5)
    )
  ) else (
    (((-1) : Int32), mu)
  )
def F_sm_askedText (mu : Nat → Nat → Int32) (vt : Int32) : Int32 × (Nat → Nat → Int32) :=
  if F_sm_isText (vt : Int32) = 1 then (
    LETV (mu 5 vt.toNatClampNeg : Int32) fun y2 =>
    if y2 ≥ (0 : Int32) then (
      ((0 : Int32), mu)
    ) else (
      LETP (F_sm_meet mu (1 : Int32)) fun r5 xi5 =>
      ((r5 : Int32), xi5)
    )
  ) else (
    (((-1) : Int32), mu)
  )
set_option maxHeartbeats 4000000 in
set_option maxRecDepth 100000 in
/-- sm_in -/
theorem sm_in (l : Launch) (dC : Nat → ClassId) (dI : Nat → Nat → Nat) (tys : List (ClassId × FieldType)) (H : Heap) (va : Int32) (vb : Int32) (vc : Int32) : Met l yX12_in (wU yX12_in cX12_in 3 (some .boolean)) ({ frames := 0, cells := 0, slots := 0, locals := 0 }) (va_Pc [.int va, .int vb, .int vc] (sz_P (dC, dI) vwCl tys H)) (va_Qi (fun (z : Int32) (_ : Unit) => z = F_sm_in va vb vc ∧ ((z = 1 ∧ (vb.toInt ≤ va.toInt ∧ va.toInt ≤ vc.toInt)) ∨ (z = 0 ∧ (va.toInt < vb.toInt ∨ vc.toInt < va.toInt)))) (fun _ t => t.heap = H) (fun _ => False)) 0 0 (fun _ => False) := by
  refine Met.ofW (cc := cX12_in) (maxL := 3) (ret := (some .boolean)) (by decide) rfl ?_
  intro p e s m args below meth c s₁ B hml hv
  obtain ⟨rfl, hh, hK, hz⟩ := hv
  have hx := B.exec
  have hb := B.bytes
  have hr := B.returns
  have hts := atoms_spec (ws := (wU yX12_in cX12_in 3 (some .boolean))) B.pre
  have hown : s.vm.findClass RX12 = some m.cls := findClass_of_methodNamed B.named
  have hlocks := B.notSynchronized
  subst hh
  have hS : va_S (fun _ => False) s.heap s.heap [] := va_S.rf
  have hl := lv_entry ([.int va, .int vb, .int vc]) (n := 3) (Nat.le_of_ble_eq_true rfl)
  rw [lg_entry_eq]
  generalize (lg_sl ([.int va, .int vb, .int vc]) ++ List.replicate (3 - (lg_sl ([.int va, .int vb, .int vc])).length) Slot.unset).toArray = ls at hl ⊢
  have hl : lv_has ls 3 [(0, .int va), (1, .int vb), (2, .int vc)] := hl
  obtain ⟨fz, hfz⟩ : ∃ z, F_sm_in va vb vc = z := ⟨_, rfl⟩
  have hF := hfz
  unfold F_sm_in at hF
  refine lv_iload_n hx hb dX12_in_0 rfl (lv_at hl 0 rfl) ?_
  refine lv_iload_n hx hb dX12_in_1 rfl (lv_at hl 1 rfl) ?_
  refine lv_icmp_lt (tgt := 14) hx hb dX12_in_2 (by decide) (fun c_1 => ?_) (fun c_1 => ?_)
  · have hF := (if_pos c_1).symm.trans hF
    have c_1 : va.toInt < vb.toInt := il_lt c_1
    refine lv_iconst (v := 0) hx hb dX12_in_14 (by decide) ?_
    exact W.zret (v := 0) (ty := .boolean) hx hb hr (by first | rfl | decide) (fun t ht hW => ⟨⟨0, (), rfl, ⟨hF.trans hfz.symm, (Or.inr ⟨rfl, by omega⟩)⟩, ht⟩, hS.F ht⟩) hS.2.2 dX12_in_15
  · have hF := (if_neg c_1).symm.trans hF
    have c_1 : vb.toInt ≤ va.toInt := il_nlt c_1
    refine lv_iload_n hx hb dX12_in_5 rfl (lv_at hl 0 rfl) ?_
    refine lv_iload_n hx hb dX12_in_6 rfl (lv_at hl 2 rfl) ?_
    refine lv_icmp_gt (tgt := 14) hx hb dX12_in_7 (by decide) (fun c_2 => ?_) (fun c_2 => ?_)
    · have hF := (if_pos c_2).symm.trans hF
      have c_2 : vc.toInt < va.toInt := il_lt c_2
      refine lv_iconst (v := 0) hx hb dX12_in_14 (by decide) ?_
      exact W.zret (v := 0) (ty := .boolean) hx hb hr (by first | rfl | decide) (fun t ht hW => ⟨⟨0, (), rfl, ⟨hF.trans hfz.symm, (Or.inr ⟨rfl, by omega⟩)⟩, ht⟩, hS.F ht⟩) hS.2.2 dX12_in_15
    · have hF := (if_neg c_2).symm.trans hF
      have c_2 : va.toInt ≤ vc.toInt := il_nlt c_2
      refine lv_iconst (v := 1) hx hb dX12_in_10 (by decide) ?_
      refine lv_goto (tgt := 15) hx hb dX12_in_11 (by decide) ?_
      exact W.zret (v := 1) (ty := .boolean) hx hb hr (by first | rfl | decide) (fun t ht hW => ⟨⟨1, (), rfl, ⟨hF.trans hfz.symm, (Or.inl ⟨rfl, by omega⟩)⟩, ht⟩, hS.F ht⟩) hS.2.2 dX12_in_15
set_option maxHeartbeats 4000000 in
set_option maxRecDepth 100000 in
/-- sm_has -/
theorem sm_has (l : Launch) (dC : Nat → ClassId) (dI : Nat → Nat → Nat) (tys : List (ClassId × FieldType)) (H : Heap) (va : Int32) (vb : Int32) : Met l yX12_has (wU yX12_has cX12_has 2 (some .boolean)) ({ frames := 0, cells := 0, slots := 0, locals := 0 }) (va_Pc [.int va, .int vb] (sz_P (dC, dI) vwCl tys H)) (va_Qi (fun (z : Int32) (_ : Unit) => z = F_sm_has va vb ∧ ((z = 1 ∧ (rb va vb = 1)) ∨ (z = 0 ∧ (¬ rb va vb = 1)))) (fun _ t => t.heap = H) (fun _ => False)) 0 0 (fun _ => False) := by
  refine Met.ofW (cc := cX12_has) (maxL := 2) (ret := (some .boolean)) (by decide) rfl ?_
  intro p e s m args below meth c s₁ B hml hv
  obtain ⟨rfl, hh, hK, hz⟩ := hv
  have hx := B.exec
  have hb := B.bytes
  have hr := B.returns
  have hts := atoms_spec (ws := (wU yX12_has cX12_has 2 (some .boolean))) B.pre
  have hown : s.vm.findClass RX12 = some m.cls := findClass_of_methodNamed B.named
  have hlocks := B.notSynchronized
  subst hh
  have hS : va_S (fun _ => False) s.heap s.heap [] := va_S.rf
  have hl := lv_entry ([.int va, .int vb]) (n := 2) (Nat.le_of_ble_eq_true rfl)
  rw [lg_entry_eq]
  generalize (lg_sl ([.int va, .int vb]) ++ List.replicate (2 - (lg_sl ([.int va, .int vb])).length) Slot.unset).toArray = ls at hl ⊢
  have hl : lv_has ls 2 [(0, .int va), (1, .int vb)] := hl
  obtain ⟨fz, hfz⟩ : ∃ z, F_sm_has va vb = z := ⟨_, rfl⟩
  have hF := hfz
  unfold F_sm_has at hF
  refine lv_iload_n hx hb dX12_has_0 rfl (lv_at hl 0 rfl) ?_
  refine lv_iload_n hx hb dX12_has_1 rfl (lv_at hl 1 rfl) ?_
  refine lv_ishr hx hb dX12_has_2 ?_
  refine lv_topi (fun t1 et1 => ?_)
  have hF := mi_let hF et1
  refine lv_iconst (v := 1) hx hb dX12_has_3 (by decide) ?_
  refine lv_iand hx hb dX12_has_4 ?_
  refine lv_topi (fun t2 et2 => ?_)
  have hF := mi_let hF et2
  refine lv_iconst (v := 1) hx hb dX12_has_5 (by decide) ?_
  refine lv_icmp_ne (tgt := 13) hx hb dX12_has_6 (by decide) (fun c_3 => ?_) (fun c_3 => ?_)
  · have hF := (if_neg c_3).symm.trans hF
    have c_3 : ¬ t2.toInt = 1 := il_ne c_3
    refine lv_iconst (v := 0) hx hb dX12_has_13 (by decide) ?_
    exact W.zret (v := 0) (ty := .boolean) hx hb hr (by first | rfl | decide) (fun t ht hW => ⟨⟨0, (), rfl, ⟨hF.trans hfz.symm, (Or.inr ⟨rfl, by unfold rb; rw [← et1, ← et2]; exact fun h => c_3 (congrArg Int32.toInt h)⟩)⟩, ht⟩, hS.F ht⟩) hS.2.2 dX12_has_14
  · have hF := (if_pos c_3).symm.trans hF
    have c_3 : t2.toInt = 1 := il_eq c_3
    refine lv_iconst (v := 1) hx hb dX12_has_9 (by decide) ?_
    refine lv_goto (tgt := 14) hx hb dX12_has_10 (by decide) ?_
    exact W.zret (v := 1) (ty := .boolean) hx hb hr (by first | rfl | decide) (fun t ht hW => ⟨⟨1, (), rfl, ⟨hF.trans hfz.symm, (Or.inl ⟨rfl, by unfold rb; rw [← et1, ← et2]; exact Int32.toInt_inj.mp c_3⟩)⟩, ht⟩, hS.F ht⟩) hS.2.2 dX12_has_14
set_option maxHeartbeats 4000000 in
set_option maxRecDepth 100000 in
/-- sm_sizeOf -/
theorem sm_sizeOf (l : Launch) (dC : Nat → ClassId) (dI : Nat → Nat → Nat) (tys : List (ClassId × FieldType)) (H : Heap) (va : Int32) : Met l yX12_sizeOf (wU yX12_sizeOf cX12_sizeOf 3 (some .int)) ({ frames := 0, cells := 0, slots := 0, locals := 0 }) (va_Pc [.int va] (sz_P (dC, dI) vwCl tys H)) (va_Qi (fun (z : Int32) (_ : Unit) => z = F_sm_sizeOf va ∧ (z = so va ∧ (0 ≤ va.toInt → va.toInt ≤ 127 → z.toInt = (pp va.toNatClampNeg : Int) ∧ pp va.toNatClampNeg ≤ 7 ∧ (va.toInt = 0 ∨ 1 ≤ pp va.toNatClampNeg)))) (fun _ t => t.heap = H) (fun _ => False)) 0 0 (fun _ => False) := by
  refine Met.ofW (cc := cX12_sizeOf) (maxL := 3) (ret := (some .int)) (by decide) rfl ?_
  intro p e s m args below meth c s₁ B hml hv
  obtain ⟨rfl, hh, hK, hz⟩ := hv
  have hx := B.exec
  have hb := B.bytes
  have hr := B.returns
  have hts := atoms_spec (ws := (wU yX12_sizeOf cX12_sizeOf 3 (some .int))) B.pre
  have hown : s.vm.findClass RX12 = some m.cls := findClass_of_methodNamed B.named
  have hlocks := B.notSynchronized
  subst hh
  have hS : va_S (fun _ => False) s.heap s.heap [] := va_S.rf
  have hl := lv_entry ([.int va]) (n := 3) (Nat.le_of_ble_eq_true rfl)
  rw [lg_entry_eq]
  generalize (lg_sl ([.int va]) ++ List.replicate (3 - (lg_sl ([.int va])).length) Slot.unset).toArray = ls at hl ⊢
  have hl : lv_has ls 3 [(0, .int va)] := hl
  obtain ⟨fz, hfz⟩ : ∃ z, F_sm_sizeOf va = z := ⟨_, rfl⟩
  have hF := hfz
  unfold F_sm_sizeOf at hF
  refine lv_iconst (v := 0) hx hb dX12_sizeOf_0 (by decide) ?_
  refine lv_istore_n (lv' := [(1, .int 0), (0, .int va)]) hx hb dX12_sizeOf_1 rfl hl (by decide) rfl (fun ls hl => ?_)
  refine lv_iconst (v := 0) hx hb dX12_sizeOf_2 (by decide) ?_
  refine lv_istore_n (lv' := [(2, .int 0), (1, .int 0), (0, .int va)]) hx hb dX12_sizeOf_3 rfl hl (by decide) rfl (fun ls hl => ?_)
  refine lv_iload_n hx hb dX12_sizeOf_4 rfl (lv_at hl 0 rfl) ?_
  refine lv_bipush (v := 12) hx hb dX12_sizeOf_5 (by decide) ?_
  refine lv_icmp_ge (tgt := 24) hx hb dX12_sizeOf_7 (by decide) (fun c => absurd c (by decide)) (fun _ => ?_)
  refine lv_iload_n hx hb dX12_sizeOf_10 rfl (lv_at hl 1 rfl) ?_
  refine lv_iload_n hx hb dX12_sizeOf_11 rfl (lv_at hl 2 rfl) ?_
  refine lv_iload_n hx hb dX12_sizeOf_12 rfl (lv_at hl 0 rfl) ?_
  refine lv_ishr hx hb dX12_sizeOf_13 ?_
  refine lv_topi (fun t1 et1 => ?_)
  have hF := mi_let hF et1
  refine lv_iconst (v := 1) hx hb dX12_sizeOf_14 (by decide) ?_
  refine lv_iand hx hb dX12_sizeOf_15 ?_
  refine lv_topi (fun t2 et2 => ?_)
  have hF := mi_let hF et2
  refine lv_iadd hx hb dX12_sizeOf_16 ?_
  refine lv_topi (fun t3 et3 => ?_)
  have hF := mi_let hF et3
  refine lv_istore_n (lv' := [(1, .int t3), (2, .int 0), (0, .int va)]) hx hb dX12_sizeOf_17 rfl hl (by decide) rfl (fun ls hl => ?_)
  refine lv_iinc (v := 1) (lv' := [(2, .int 1), (1, .int t3), (0, .int va)]) hx hb dX12_sizeOf_18 hl (k := 1) rfl (by decide) (by decide) rfl (fun ls hl => ?_)
  refine lv_goto (tgt := 4) hx hb dX12_sizeOf_21 (by decide) ?_
  refine lv_iload_n hx hb dX12_sizeOf_4 rfl (lv_at hl 0 rfl) ?_
  refine lv_bipush (v := 12) hx hb dX12_sizeOf_5 (by decide) ?_
  refine lv_icmp_ge (tgt := 24) hx hb dX12_sizeOf_7 (by decide) (fun c => absurd c (by decide)) (fun _ => ?_)
  refine lv_iload_n hx hb dX12_sizeOf_10 rfl (lv_at hl 1 rfl) ?_
  refine lv_iload_n hx hb dX12_sizeOf_11 rfl (lv_at hl 2 rfl) ?_
  refine lv_iload_n hx hb dX12_sizeOf_12 rfl (lv_at hl 0 rfl) ?_
  refine lv_ishr hx hb dX12_sizeOf_13 ?_
  refine lv_topi (fun t4 et4 => ?_)
  have hF := mi_let hF et4
  refine lv_iconst (v := 1) hx hb dX12_sizeOf_14 (by decide) ?_
  refine lv_iand hx hb dX12_sizeOf_15 ?_
  refine lv_topi (fun t5 et5 => ?_)
  have hF := mi_let hF et5
  refine lv_iadd hx hb dX12_sizeOf_16 ?_
  refine lv_topi (fun t6 et6 => ?_)
  have hF := mi_let hF et6
  refine lv_istore_n (lv' := [(1, .int t6), (2, .int 1), (0, .int va)]) hx hb dX12_sizeOf_17 rfl hl (by decide) rfl (fun ls hl => ?_)
  refine lv_iinc (v := 2) (lv' := [(2, .int 2), (1, .int t6), (0, .int va)]) hx hb dX12_sizeOf_18 hl (k := 1) rfl (by decide) (by decide) rfl (fun ls hl => ?_)
  refine lv_goto (tgt := 4) hx hb dX12_sizeOf_21 (by decide) ?_
  refine lv_iload_n hx hb dX12_sizeOf_4 rfl (lv_at hl 0 rfl) ?_
  refine lv_bipush (v := 12) hx hb dX12_sizeOf_5 (by decide) ?_
  refine lv_icmp_ge (tgt := 24) hx hb dX12_sizeOf_7 (by decide) (fun c => absurd c (by decide)) (fun _ => ?_)
  refine lv_iload_n hx hb dX12_sizeOf_10 rfl (lv_at hl 1 rfl) ?_
  refine lv_iload_n hx hb dX12_sizeOf_11 rfl (lv_at hl 2 rfl) ?_
  refine lv_iload_n hx hb dX12_sizeOf_12 rfl (lv_at hl 0 rfl) ?_
  refine lv_ishr hx hb dX12_sizeOf_13 ?_
  refine lv_topi (fun t7 et7 => ?_)
  have hF := mi_let hF et7
  refine lv_iconst (v := 1) hx hb dX12_sizeOf_14 (by decide) ?_
  refine lv_iand hx hb dX12_sizeOf_15 ?_
  refine lv_topi (fun t8 et8 => ?_)
  have hF := mi_let hF et8
  refine lv_iadd hx hb dX12_sizeOf_16 ?_
  refine lv_topi (fun t9 et9 => ?_)
  have hF := mi_let hF et9
  refine lv_istore_n (lv' := [(1, .int t9), (2, .int 2), (0, .int va)]) hx hb dX12_sizeOf_17 rfl hl (by decide) rfl (fun ls hl => ?_)
  refine lv_iinc (v := 3) (lv' := [(2, .int 3), (1, .int t9), (0, .int va)]) hx hb dX12_sizeOf_18 hl (k := 1) rfl (by decide) (by decide) rfl (fun ls hl => ?_)
  refine lv_goto (tgt := 4) hx hb dX12_sizeOf_21 (by decide) ?_
  refine lv_iload_n hx hb dX12_sizeOf_4 rfl (lv_at hl 0 rfl) ?_
  refine lv_bipush (v := 12) hx hb dX12_sizeOf_5 (by decide) ?_
  refine lv_icmp_ge (tgt := 24) hx hb dX12_sizeOf_7 (by decide) (fun c => absurd c (by decide)) (fun _ => ?_)
  refine lv_iload_n hx hb dX12_sizeOf_10 rfl (lv_at hl 1 rfl) ?_
  refine lv_iload_n hx hb dX12_sizeOf_11 rfl (lv_at hl 2 rfl) ?_
  refine lv_iload_n hx hb dX12_sizeOf_12 rfl (lv_at hl 0 rfl) ?_
  refine lv_ishr hx hb dX12_sizeOf_13 ?_
  refine lv_topi (fun t10 et10 => ?_)
  have hF := mi_let hF et10
  refine lv_iconst (v := 1) hx hb dX12_sizeOf_14 (by decide) ?_
  refine lv_iand hx hb dX12_sizeOf_15 ?_
  refine lv_topi (fun t11 et11 => ?_)
  have hF := mi_let hF et11
  refine lv_iadd hx hb dX12_sizeOf_16 ?_
  refine lv_topi (fun t12 et12 => ?_)
  have hF := mi_let hF et12
  refine lv_istore_n (lv' := [(1, .int t12), (2, .int 3), (0, .int va)]) hx hb dX12_sizeOf_17 rfl hl (by decide) rfl (fun ls hl => ?_)
  refine lv_iinc (v := 4) (lv' := [(2, .int 4), (1, .int t12), (0, .int va)]) hx hb dX12_sizeOf_18 hl (k := 1) rfl (by decide) (by decide) rfl (fun ls hl => ?_)
  refine lv_goto (tgt := 4) hx hb dX12_sizeOf_21 (by decide) ?_
  refine lv_iload_n hx hb dX12_sizeOf_4 rfl (lv_at hl 0 rfl) ?_
  refine lv_bipush (v := 12) hx hb dX12_sizeOf_5 (by decide) ?_
  refine lv_icmp_ge (tgt := 24) hx hb dX12_sizeOf_7 (by decide) (fun c => absurd c (by decide)) (fun _ => ?_)
  refine lv_iload_n hx hb dX12_sizeOf_10 rfl (lv_at hl 1 rfl) ?_
  refine lv_iload_n hx hb dX12_sizeOf_11 rfl (lv_at hl 2 rfl) ?_
  refine lv_iload_n hx hb dX12_sizeOf_12 rfl (lv_at hl 0 rfl) ?_
  refine lv_ishr hx hb dX12_sizeOf_13 ?_
  refine lv_topi (fun t13 et13 => ?_)
  have hF := mi_let hF et13
  refine lv_iconst (v := 1) hx hb dX12_sizeOf_14 (by decide) ?_
  refine lv_iand hx hb dX12_sizeOf_15 ?_
  refine lv_topi (fun t14 et14 => ?_)
  have hF := mi_let hF et14
  refine lv_iadd hx hb dX12_sizeOf_16 ?_
  refine lv_topi (fun t15 et15 => ?_)
  have hF := mi_let hF et15
  refine lv_istore_n (lv' := [(1, .int t15), (2, .int 4), (0, .int va)]) hx hb dX12_sizeOf_17 rfl hl (by decide) rfl (fun ls hl => ?_)
  refine lv_iinc (v := 5) (lv' := [(2, .int 5), (1, .int t15), (0, .int va)]) hx hb dX12_sizeOf_18 hl (k := 1) rfl (by decide) (by decide) rfl (fun ls hl => ?_)
  refine lv_goto (tgt := 4) hx hb dX12_sizeOf_21 (by decide) ?_
  refine lv_iload_n hx hb dX12_sizeOf_4 rfl (lv_at hl 0 rfl) ?_
  refine lv_bipush (v := 12) hx hb dX12_sizeOf_5 (by decide) ?_
  refine lv_icmp_ge (tgt := 24) hx hb dX12_sizeOf_7 (by decide) (fun c => absurd c (by decide)) (fun _ => ?_)
  refine lv_iload_n hx hb dX12_sizeOf_10 rfl (lv_at hl 1 rfl) ?_
  refine lv_iload_n hx hb dX12_sizeOf_11 rfl (lv_at hl 2 rfl) ?_
  refine lv_iload_n hx hb dX12_sizeOf_12 rfl (lv_at hl 0 rfl) ?_
  refine lv_ishr hx hb dX12_sizeOf_13 ?_
  refine lv_topi (fun t16 et16 => ?_)
  have hF := mi_let hF et16
  refine lv_iconst (v := 1) hx hb dX12_sizeOf_14 (by decide) ?_
  refine lv_iand hx hb dX12_sizeOf_15 ?_
  refine lv_topi (fun t17 et17 => ?_)
  have hF := mi_let hF et17
  refine lv_iadd hx hb dX12_sizeOf_16 ?_
  refine lv_topi (fun t18 et18 => ?_)
  have hF := mi_let hF et18
  refine lv_istore_n (lv' := [(1, .int t18), (2, .int 5), (0, .int va)]) hx hb dX12_sizeOf_17 rfl hl (by decide) rfl (fun ls hl => ?_)
  refine lv_iinc (v := 6) (lv' := [(2, .int 6), (1, .int t18), (0, .int va)]) hx hb dX12_sizeOf_18 hl (k := 1) rfl (by decide) (by decide) rfl (fun ls hl => ?_)
  refine lv_goto (tgt := 4) hx hb dX12_sizeOf_21 (by decide) ?_
  refine lv_iload_n hx hb dX12_sizeOf_4 rfl (lv_at hl 0 rfl) ?_
  refine lv_bipush (v := 12) hx hb dX12_sizeOf_5 (by decide) ?_
  refine lv_icmp_ge (tgt := 24) hx hb dX12_sizeOf_7 (by decide) (fun c => absurd c (by decide)) (fun _ => ?_)
  refine lv_iload_n hx hb dX12_sizeOf_10 rfl (lv_at hl 1 rfl) ?_
  refine lv_iload_n hx hb dX12_sizeOf_11 rfl (lv_at hl 2 rfl) ?_
  refine lv_iload_n hx hb dX12_sizeOf_12 rfl (lv_at hl 0 rfl) ?_
  refine lv_ishr hx hb dX12_sizeOf_13 ?_
  refine lv_topi (fun t19 et19 => ?_)
  have hF := mi_let hF et19
  refine lv_iconst (v := 1) hx hb dX12_sizeOf_14 (by decide) ?_
  refine lv_iand hx hb dX12_sizeOf_15 ?_
  refine lv_topi (fun t20 et20 => ?_)
  have hF := mi_let hF et20
  refine lv_iadd hx hb dX12_sizeOf_16 ?_
  refine lv_topi (fun t21 et21 => ?_)
  have hF := mi_let hF et21
  refine lv_istore_n (lv' := [(1, .int t21), (2, .int 6), (0, .int va)]) hx hb dX12_sizeOf_17 rfl hl (by decide) rfl (fun ls hl => ?_)
  refine lv_iinc (v := 7) (lv' := [(2, .int 7), (1, .int t21), (0, .int va)]) hx hb dX12_sizeOf_18 hl (k := 1) rfl (by decide) (by decide) rfl (fun ls hl => ?_)
  refine lv_goto (tgt := 4) hx hb dX12_sizeOf_21 (by decide) ?_
  refine lv_iload_n hx hb dX12_sizeOf_4 rfl (lv_at hl 0 rfl) ?_
  refine lv_bipush (v := 12) hx hb dX12_sizeOf_5 (by decide) ?_
  refine lv_icmp_ge (tgt := 24) hx hb dX12_sizeOf_7 (by decide) (fun c => absurd c (by decide)) (fun _ => ?_)
  refine lv_iload_n hx hb dX12_sizeOf_10 rfl (lv_at hl 1 rfl) ?_
  refine lv_iload_n hx hb dX12_sizeOf_11 rfl (lv_at hl 2 rfl) ?_
  refine lv_iload_n hx hb dX12_sizeOf_12 rfl (lv_at hl 0 rfl) ?_
  refine lv_ishr hx hb dX12_sizeOf_13 ?_
  refine lv_topi (fun t22 et22 => ?_)
  have hF := mi_let hF et22
  refine lv_iconst (v := 1) hx hb dX12_sizeOf_14 (by decide) ?_
  refine lv_iand hx hb dX12_sizeOf_15 ?_
  refine lv_topi (fun t23 et23 => ?_)
  have hF := mi_let hF et23
  refine lv_iadd hx hb dX12_sizeOf_16 ?_
  refine lv_topi (fun t24 et24 => ?_)
  have hF := mi_let hF et24
  refine lv_istore_n (lv' := [(1, .int t24), (2, .int 7), (0, .int va)]) hx hb dX12_sizeOf_17 rfl hl (by decide) rfl (fun ls hl => ?_)
  refine lv_iinc (v := 8) (lv' := [(2, .int 8), (1, .int t24), (0, .int va)]) hx hb dX12_sizeOf_18 hl (k := 1) rfl (by decide) (by decide) rfl (fun ls hl => ?_)
  refine lv_goto (tgt := 4) hx hb dX12_sizeOf_21 (by decide) ?_
  refine lv_iload_n hx hb dX12_sizeOf_4 rfl (lv_at hl 0 rfl) ?_
  refine lv_bipush (v := 12) hx hb dX12_sizeOf_5 (by decide) ?_
  refine lv_icmp_ge (tgt := 24) hx hb dX12_sizeOf_7 (by decide) (fun c => absurd c (by decide)) (fun _ => ?_)
  refine lv_iload_n hx hb dX12_sizeOf_10 rfl (lv_at hl 1 rfl) ?_
  refine lv_iload_n hx hb dX12_sizeOf_11 rfl (lv_at hl 2 rfl) ?_
  refine lv_iload_n hx hb dX12_sizeOf_12 rfl (lv_at hl 0 rfl) ?_
  refine lv_ishr hx hb dX12_sizeOf_13 ?_
  refine lv_topi (fun t25 et25 => ?_)
  have hF := mi_let hF et25
  refine lv_iconst (v := 1) hx hb dX12_sizeOf_14 (by decide) ?_
  refine lv_iand hx hb dX12_sizeOf_15 ?_
  refine lv_topi (fun t26 et26 => ?_)
  have hF := mi_let hF et26
  refine lv_iadd hx hb dX12_sizeOf_16 ?_
  refine lv_topi (fun t27 et27 => ?_)
  have hF := mi_let hF et27
  refine lv_istore_n (lv' := [(1, .int t27), (2, .int 8), (0, .int va)]) hx hb dX12_sizeOf_17 rfl hl (by decide) rfl (fun ls hl => ?_)
  refine lv_iinc (v := 9) (lv' := [(2, .int 9), (1, .int t27), (0, .int va)]) hx hb dX12_sizeOf_18 hl (k := 1) rfl (by decide) (by decide) rfl (fun ls hl => ?_)
  refine lv_goto (tgt := 4) hx hb dX12_sizeOf_21 (by decide) ?_
  refine lv_iload_n hx hb dX12_sizeOf_4 rfl (lv_at hl 0 rfl) ?_
  refine lv_bipush (v := 12) hx hb dX12_sizeOf_5 (by decide) ?_
  refine lv_icmp_ge (tgt := 24) hx hb dX12_sizeOf_7 (by decide) (fun c => absurd c (by decide)) (fun _ => ?_)
  refine lv_iload_n hx hb dX12_sizeOf_10 rfl (lv_at hl 1 rfl) ?_
  refine lv_iload_n hx hb dX12_sizeOf_11 rfl (lv_at hl 2 rfl) ?_
  refine lv_iload_n hx hb dX12_sizeOf_12 rfl (lv_at hl 0 rfl) ?_
  refine lv_ishr hx hb dX12_sizeOf_13 ?_
  refine lv_topi (fun t28 et28 => ?_)
  have hF := mi_let hF et28
  refine lv_iconst (v := 1) hx hb dX12_sizeOf_14 (by decide) ?_
  refine lv_iand hx hb dX12_sizeOf_15 ?_
  refine lv_topi (fun t29 et29 => ?_)
  have hF := mi_let hF et29
  refine lv_iadd hx hb dX12_sizeOf_16 ?_
  refine lv_topi (fun t30 et30 => ?_)
  have hF := mi_let hF et30
  refine lv_istore_n (lv' := [(1, .int t30), (2, .int 9), (0, .int va)]) hx hb dX12_sizeOf_17 rfl hl (by decide) rfl (fun ls hl => ?_)
  refine lv_iinc (v := 10) (lv' := [(2, .int 10), (1, .int t30), (0, .int va)]) hx hb dX12_sizeOf_18 hl (k := 1) rfl (by decide) (by decide) rfl (fun ls hl => ?_)
  refine lv_goto (tgt := 4) hx hb dX12_sizeOf_21 (by decide) ?_
  refine lv_iload_n hx hb dX12_sizeOf_4 rfl (lv_at hl 0 rfl) ?_
  refine lv_bipush (v := 12) hx hb dX12_sizeOf_5 (by decide) ?_
  refine lv_icmp_ge (tgt := 24) hx hb dX12_sizeOf_7 (by decide) (fun c => absurd c (by decide)) (fun _ => ?_)
  refine lv_iload_n hx hb dX12_sizeOf_10 rfl (lv_at hl 1 rfl) ?_
  refine lv_iload_n hx hb dX12_sizeOf_11 rfl (lv_at hl 2 rfl) ?_
  refine lv_iload_n hx hb dX12_sizeOf_12 rfl (lv_at hl 0 rfl) ?_
  refine lv_ishr hx hb dX12_sizeOf_13 ?_
  refine lv_topi (fun t31 et31 => ?_)
  have hF := mi_let hF et31
  refine lv_iconst (v := 1) hx hb dX12_sizeOf_14 (by decide) ?_
  refine lv_iand hx hb dX12_sizeOf_15 ?_
  refine lv_topi (fun t32 et32 => ?_)
  have hF := mi_let hF et32
  refine lv_iadd hx hb dX12_sizeOf_16 ?_
  refine lv_topi (fun t33 et33 => ?_)
  have hF := mi_let hF et33
  refine lv_istore_n (lv' := [(1, .int t33), (2, .int 10), (0, .int va)]) hx hb dX12_sizeOf_17 rfl hl (by decide) rfl (fun ls hl => ?_)
  refine lv_iinc (v := 11) (lv' := [(2, .int 11), (1, .int t33), (0, .int va)]) hx hb dX12_sizeOf_18 hl (k := 1) rfl (by decide) (by decide) rfl (fun ls hl => ?_)
  refine lv_goto (tgt := 4) hx hb dX12_sizeOf_21 (by decide) ?_
  refine lv_iload_n hx hb dX12_sizeOf_4 rfl (lv_at hl 0 rfl) ?_
  refine lv_bipush (v := 12) hx hb dX12_sizeOf_5 (by decide) ?_
  refine lv_icmp_ge (tgt := 24) hx hb dX12_sizeOf_7 (by decide) (fun c => absurd c (by decide)) (fun _ => ?_)
  refine lv_iload_n hx hb dX12_sizeOf_10 rfl (lv_at hl 1 rfl) ?_
  refine lv_iload_n hx hb dX12_sizeOf_11 rfl (lv_at hl 2 rfl) ?_
  refine lv_iload_n hx hb dX12_sizeOf_12 rfl (lv_at hl 0 rfl) ?_
  refine lv_ishr hx hb dX12_sizeOf_13 ?_
  refine lv_topi (fun t34 et34 => ?_)
  have hF := mi_let hF et34
  refine lv_iconst (v := 1) hx hb dX12_sizeOf_14 (by decide) ?_
  refine lv_iand hx hb dX12_sizeOf_15 ?_
  refine lv_topi (fun t35 et35 => ?_)
  have hF := mi_let hF et35
  refine lv_iadd hx hb dX12_sizeOf_16 ?_
  refine lv_topi (fun t36 et36 => ?_)
  have hF := mi_let hF et36
  refine lv_istore_n (lv' := [(1, .int t36), (2, .int 11), (0, .int va)]) hx hb dX12_sizeOf_17 rfl hl (by decide) rfl (fun ls hl => ?_)
  refine lv_iinc (v := 12) (lv' := [(2, .int 12), (1, .int t36), (0, .int va)]) hx hb dX12_sizeOf_18 hl (k := 1) rfl (by decide) (by decide) rfl (fun ls hl => ?_)
  refine lv_goto (tgt := 4) hx hb dX12_sizeOf_21 (by decide) ?_
  refine lv_iload_n hx hb dX12_sizeOf_4 rfl (lv_at hl 0 rfl) ?_
  refine lv_bipush (v := 12) hx hb dX12_sizeOf_5 (by decide) ?_
  refine lv_icmp_ge (tgt := 24) hx hb dX12_sizeOf_7 (by decide) (fun _ => ?_) (fun c => absurd (by decide) c)
  refine lv_iload_n hx hb dX12_sizeOf_24 rfl (lv_at hl 1 rfl) ?_
  exact W.iret (v := t36) hx hb hr (fun t ht hW => ⟨⟨t36, (), rfl, ⟨hF.trans hfz.symm, (by have h9 : t36 = so va := (by subst_vars; rfl); exact ⟨h9, fun h1 h2 => by rw [h9]; exact so_7 h1 h2⟩)⟩, ht⟩, hS.F ht⟩) hS.2.2 dX12_sizeOf_25
set_option maxHeartbeats 4000000 in
set_option maxRecDepth 100000 in
/-- sm_isRow -/
theorem sm_isRow (l : Launch) (dC : Nat → ClassId) (dI : Nat → Nat → Nat) (tys : List (ClassId × FieldType)) (H : Heap) (va : Int32) : Met l yX12_isRow (wU yX12_isRow cX12_isRow 1 (some .boolean)) ({ frames := 1, cells := 0, slots := 0, locals := 22 }) (va_Pc [.int va] (sz_P (dC, dI) vwCl tys H)) (va_Qi (fun (z : Int32) (_ : Unit) => z = F_sm_isRow va ∧ ((z = 1 ∧ (0 ≤ va.toInt ∧ va.toInt ≤ 5)) ∨ (z = 0 ∧ (va.toInt < 0 ∨ 5 < va.toInt)))) (fun _ t => t.heap = H) (fun _ => False)) 0 0 (fun _ => False) := by
  refine Met.ofW (cc := cX12_isRow) (maxL := 1) (ret := (some .boolean)) (by decide) rfl ?_
  intro p e s m args below meth c s₁ B hml hv
  obtain ⟨rfl, hh, hK, hz⟩ := hv
  have hx := B.exec
  have hb := B.bytes
  have hr := B.returns
  have hts := atoms_spec (ws := (wU yX12_isRow cX12_isRow 1 (some .boolean))) B.pre
  have hown : s.vm.findClass RX12 = some m.cls := findClass_of_methodNamed B.named
  have hlocks := B.notSynchronized
  subst hh
  have hS : va_S (fun _ => False) s.heap s.heap [] := va_S.rf
  have hl := lv_entry ([.int va]) (n := 1) (Nat.le_of_ble_eq_true rfl)
  rw [lg_entry_eq]
  generalize (lg_sl ([.int va]) ++ List.replicate (1 - (lg_sl ([.int va])).length) Slot.unset).toArray = ls at hl ⊢
  have hl : lv_has ls 1 [(0, .int va)] := hl
  obtain ⟨fz, hfz⟩ : ∃ z, F_sm_isRow va = z := ⟨_, rfl⟩
  have hF := hfz
  unfold F_sm_isRow at hF
  refine lv_iload_n hx hb dX12_isRow_0 rfl (lv_at hl 0 rfl) ?_
  refine lv_iconst (v := 0) hx hb dX12_isRow_1 (by decide) ?_
  refine lv_iconst (v := 5) hx hb dX12_isRow_2 (by decide) ?_
  refine cr_i (va_runS (As := [.int va, .int 0, .int 5]) (rest := []) ⟨hx, hb, hml, hown, hts⟩ (sm_in l dC dI tys s.heap va 0 5) (va_cwS 3 hts (wU_S mw_5_189 mw_5_187 mw_5_188 mw_1_13) rfl rfl rfl (by decide +kernel) ⟨Nat.le_of_ble_eq_true rfl, Nat.le_of_ble_eq_true rfl⟩) ⟨sz_c, sz_m hK hz⟩ rfl rfl hl.1 rfl (lv_room (Nat.le_of_ble_eq_true rfl)) dX12_isRow_3 ⟨Nat.zero_le _, Nat.zero_le _⟩) hS (fun r1 hw1 locs hS => ?_)
  obtain ⟨hfe1, hw1⟩ := hw1
  rcases hw1 with ⟨rfl, f1⟩ | ⟨rfl, f1⟩
  · have hF := (if_pos hfe1.symm).symm.trans hF
    have f1 : (0 : Int) ≤ va.toInt ∧ va.toInt ≤ (5 : Int) := f1
    exact W.zret (v := 1) (ty := .boolean) hx hb hr (by first | rfl | decide) (fun t ht hW => ⟨⟨1, (), rfl, ⟨hF.trans hfz.symm, (Or.inl ⟨rfl, by omega⟩)⟩, ht⟩, hS.F ht⟩) hS.2.2 dX12_isRow_6
  · have hF := (if_neg (fun h => absurd (hfe1.trans h) (by decide))).symm.trans hF
    have f1 : va.toInt < (0 : Int) ∨ (5 : Int) < va.toInt := f1
    exact W.zret (v := 0) (ty := .boolean) hx hb hr (by first | rfl | decide) (fun t ht hW => ⟨⟨0, (), rfl, ⟨hF.trans hfz.symm, (Or.inr ⟨rfl, by omega⟩)⟩, ht⟩, hS.F ht⟩) hS.2.2 dX12_isRow_6
set_option maxHeartbeats 4000000 in
set_option maxRecDepth 100000 in
/-- sm_isText -/
theorem sm_isText (l : Launch) (dC : Nat → ClassId) (dI : Nat → Nat → Nat) (tys : List (ClassId × FieldType)) (H : Heap) (va : Int32) : Met l yX12_isText (wU yX12_isText cX12_isText 1 (some .boolean)) ({ frames := 1, cells := 0, slots := 0, locals := 22 }) (va_Pc [.int va] (sz_P (dC, dI) vwCl tys H)) (va_Qi (fun (z : Int32) (_ : Unit) => z = F_sm_isText va ∧ ((z = 1 ∧ (0 ≤ va.toInt ∧ va.toInt ≤ 3)) ∨ (z = 0 ∧ (va.toInt < 0 ∨ 3 < va.toInt)))) (fun _ t => t.heap = H) (fun _ => False)) 0 0 (fun _ => False) := by
  refine Met.ofW (cc := cX12_isText) (maxL := 1) (ret := (some .boolean)) (by decide) rfl ?_
  intro p e s m args below meth c s₁ B hml hv
  obtain ⟨rfl, hh, hK, hz⟩ := hv
  have hx := B.exec
  have hb := B.bytes
  have hr := B.returns
  have hts := atoms_spec (ws := (wU yX12_isText cX12_isText 1 (some .boolean))) B.pre
  have hown : s.vm.findClass RX12 = some m.cls := findClass_of_methodNamed B.named
  have hlocks := B.notSynchronized
  subst hh
  have hS : va_S (fun _ => False) s.heap s.heap [] := va_S.rf
  have hl := lv_entry ([.int va]) (n := 1) (Nat.le_of_ble_eq_true rfl)
  rw [lg_entry_eq]
  generalize (lg_sl ([.int va]) ++ List.replicate (1 - (lg_sl ([.int va])).length) Slot.unset).toArray = ls at hl ⊢
  have hl : lv_has ls 1 [(0, .int va)] := hl
  obtain ⟨fz, hfz⟩ : ∃ z, F_sm_isText va = z := ⟨_, rfl⟩
  have hF := hfz
  unfold F_sm_isText at hF
  refine lv_iload_n hx hb dX12_isText_0 rfl (lv_at hl 0 rfl) ?_
  refine lv_iconst (v := 0) hx hb dX12_isText_1 (by decide) ?_
  refine lv_iconst (v := 3) hx hb dX12_isText_2 (by decide) ?_
  refine cr_i (va_runS (As := [.int va, .int 0, .int 3]) (rest := []) ⟨hx, hb, hml, hown, hts⟩ (sm_in l dC dI tys s.heap va 0 3) (va_cwS 3 hts (wU_S mw_5_189 mw_5_187 mw_5_188 mw_1_13) rfl rfl rfl (by decide +kernel) ⟨Nat.le_of_ble_eq_true rfl, Nat.le_of_ble_eq_true rfl⟩) ⟨sz_c, sz_m hK hz⟩ rfl rfl hl.1 rfl (lv_room (Nat.le_of_ble_eq_true rfl)) dX12_isText_3 ⟨Nat.zero_le _, Nat.zero_le _⟩) hS (fun r1 hw1 locs hS => ?_)
  obtain ⟨hfe1, hw1⟩ := hw1
  rcases hw1 with ⟨rfl, f1⟩ | ⟨rfl, f1⟩
  · have hF := (if_pos hfe1.symm).symm.trans hF
    have f1 : (0 : Int) ≤ va.toInt ∧ va.toInt ≤ (3 : Int) := f1
    exact W.zret (v := 1) (ty := .boolean) hx hb hr (by first | rfl | decide) (fun t ht hW => ⟨⟨1, (), rfl, ⟨hF.trans hfz.symm, (Or.inl ⟨rfl, by omega⟩)⟩, ht⟩, hS.F ht⟩) hS.2.2 dX12_isText_6
  · have hF := (if_neg (fun h => absurd (hfe1.trans h) (by decide))).symm.trans hF
    have f1 : va.toInt < (0 : Int) ∨ (3 : Int) < va.toInt := f1
    exact W.zret (v := 0) (ty := .boolean) hx hb hr (by first | rfl | decide) (fun t ht hW => ⟨⟨0, (), rfl, ⟨hF.trans hfz.symm, (Or.inr ⟨rfl, by omega⟩)⟩, ht⟩, hS.F ht⟩) hS.2.2 dX12_isText_6
set_option maxHeartbeats 4000000 in
set_option maxRecDepth 100000 in
/-- sm_meet -/
theorem sm_meet (l : Launch) (dC : Nat → ClassId) (dI : Nat → Nat → Nat) (cs : Nat → ClassId) (ad : Nat → Nat) (mu : Nat → Nat → Int32) (ok : okR loM hiM mu) (H : Heap) (hP : va_P (dC, dI) vwCl (wR 21 ad (EM cs ad) mu) H) (hD0 : va_D (fun _ => True) (wR 21 ad (EM cs ad) mu)) (vw : Int32) (hin0 : 1 ≤ vw.toInt ∧ vw.toInt ≤ 5) : Met l yX12_meet (wU yX12_meet cX12_meet 2 (some .int)) ({ frames := 0, cells := 0, slots := 0, locals := 0 }) (va_Pc [.ref (ad 0), .int vw] (sz_P (dC, dI) vwCl (tyM cs) H)) (va_Qi (fun (z : Int32) (xi : Nat → Nat → Int32) => (z, xi) = F_sm_meet mu vw ∧ okR loM hiM xi ∧ (-3 ≤ z.toInt ∧ z.toInt ≤ -3) ∧ (∀ k f : Nat, Nat.testBit 510 (gpM k f) = true → xi k f = mu k f)) (fun xi t => va_P (dC, dI) vwCl (wR 21 ad (EM cs ad) xi) t.heap) (va_A (wR 21 ad (EM cs ad) mu) H.size)) 0 0 (va_A (wR 21 ad (EM cs ad) mu) H.size) := by
  refine Met.ofW (cc := cX12_meet) (maxL := 2) (ret := (some .int)) (by decide) rfl ?_
  intro p e s m args below meth c s₁ B hml hv
  obtain ⟨rfl, hh, hK, hz⟩ := hv
  have hx := B.exec
  have hb := B.bytes
  have hr := B.returns
  have hts := atoms_spec (ws := (wU yX12_meet cX12_meet 2 (some .int))) B.pre
  have hown : s.vm.findClass RX12 = some m.cls := findClass_of_methodNamed B.named
  have hlocks := B.notSynchronized
  subst hh
  have hD := hD0.self (sz := s.heap.size)
  have hA : ∀ q : Nat, s.heap.size ≤ q → (va_A (wR 21 ad (EM cs ad) mu) s.heap.size) q := fun q h => Or.inr h
  have hS : va_S (va_A (wR 21 ad (EM cs ad) mu) s.heap.size) s.heap s.heap [] := va_S.rf
  have hl := lv_entry ([.ref (ad 0), .int vw]) (n := 2) (Nat.le_of_ble_eq_true rfl)
  rw [lg_entry_eq]
  generalize (lg_sl ([.ref (ad 0), .int vw]) ++ List.replicate (2 - (lg_sl ([.ref (ad 0), .int vw])).length) Slot.unset).toArray = ls at hl ⊢
  have hl : lv_has ls 2 [(0, .ref (ad 0)), (1, .int vw)] := hl
  obtain ⟨fz, hfz⟩ : ∃ z, F_sm_meet mu vw = z := ⟨_, rfl⟩
  have hF := hfz
  unfold F_sm_meet at hF
  refine lv_aload_n hx hb dX12_meet_0 rfl (lv_at hl 0 rfl) ?_
  refine lv_iload_n hx hb dX12_meet_1 rfl (lv_at hl 1 rfl) ?_
  refine va_put (D := (dC, dI)) (ci := 12) (v := .int vw) (ty := .int) (C := RX12) (T := TX12) (N := 46) hx hb hts inG12 tyX12 tyX12_ok nmX12 hown hK hP (wR_D mu hD) hS 0 (gM_0 cs ad mu) rfl 0 (by decide) (hts _ (List.mem_cons_of_mem _ mw_5_41)) (fun _ h9 => h9) rfl (by decide +kernel) rfl rfl (Nat.le_of_ble_eq_true rfl) dX12_meet_2 (fun H locs hP _ hS => ?_)
  simp only [List.set_cons_succ, List.set_cons_zero] at hP
  refine wr_gen (upd (mu 0) 0 vw) hP ((hM_0_0 cs ad _ _)) (fun nu1 hn1 hP => ?_)
  have hF := mi_let hF hn1.symm
  have ok := tM_0_0 ok hn1
  have kp2 : (∀ k f : Nat, Nat.testBit 510 (gpM k f) = true → nu1 k f = mu k f) := kp_f hn1 (by decide) (fun _ _ _ => rfl)
  have ez3 : vw = nu1 0 0 := up_v hn1
  refine lv_aload_n hx hb dX12_meet_5 rfl (lv_at hl 0 rfl) ?_
  refine va_get (D := (dC, dI)) (ci := 12) (v := .ref (ad 1)) (C := RX12) (T := TX12) (N := 46) hx hb hts inG12 hown hK hP 0 (gM_0 cs ad nu1) rfl 1 (by decide) (hts _ (List.mem_cons_of_mem _ mw_5_42)) (fun _ h9 => h9) rfl dX12_meet_6 ?_
  refine lv_iload_n hx hb dX12_meet_9 rfl (lv_at hl 1 rfl) ?_
  refine lv_dup2_11 hx hb dX12_meet_10 rfl rfl ?_
  refine va_iald hx hb hK hP 1 0 (gM_1 cs ad nu1) rfl (show vp_in vw 6 from vi_of (by omega) (by omega)) dX12_meet_11 ?_
  refine lv_topi (fun y4 ey4 => ?_)
  have hF := mi_let hF ey4
  have by4 : y4.toInt = (nu1 1 vw.toNatClampNeg).toInt := congrArg Int32.toInt ey4
  refine lv_iconst (v := 1) hx hb dX12_meet_12 (by decide) ?_
  refine lv_iadd hx hb dX12_meet_13 ?_
  refine lv_topi (fun t5 et5 => ?_)
  have hF := mi_let hF et5
  refine va_iast hx hb hK hP (wR_D nu1 hD) hS 1 0 (gM_1 cs ad nu1) rfl (show vp_in vw 6 from vi_of (by omega) (by omega)) dX12_meet_14 (fun H locs hP _ hS => ?_)
  refine wr_gen (upd (nu1 1) vw.toNatClampNeg t5) hP (rfl) (fun nu6 hn6 hP => ?_)
  have hF := mi_let hF hn6.symm
  have ok := tM_1_s ok vw.toNatClampNeg hn6
  have ez7 : vw = nu6 0 0 := ez3.trans (congrFun (up_k hn6 (by decide)) 0).symm
  have kp8 : (∀ k f : Nat, Nat.testBit 510 (gpM k f) = true → nu6 k f = mu k f) := kp_c 0 hn6 (fun _ => rfl) (by decide) kp2
  refine lv_bipush (v := (-3)) hx hb dX12_meet_15 (by decide) ?_
  exact W.iret (v := (-3)) hx hb hr (fun t ht hW => ⟨⟨(-3), nu6, rfl, ⟨hF.trans hfz.symm, ok, (by have h6 : ((-3) : Int32).toInt = -3 := rfl; omega), kp8⟩, by first | (subst ht; exact hP) | (rw [ht]; exact hP) | (show va_P (dC, dI) vwCl (wR 21 ad (EM cs ad) nu6) t.heap; rw [ht]; exact hP)⟩, hS.F ht⟩) hS.2.2 dX12_meet_17
set_option maxHeartbeats 4000000 in
set_option maxRecDepth 100000 in
/-- sm_ask -/
theorem sm_ask (l : Launch) (dC : Nat → ClassId) (dI : Nat → Nat → Nat) (cs : Nat → ClassId) (ad : Nat → Nat) (mu : Nat → Nat → Int32) (ok : okR loM hiM mu) (H : Heap) (hP : va_P (dC, dI) vwCl (wR 21 ad (EM cs ad) mu) H) (hD0 : va_D (fun _ => True) (wR 21 ad (EM cs ad) mu)) (va : Int32) (vb : Int32) : Met l yX12_ask (wU yX12_ask cX12_ask 3 (some .int)) ({ frames := 0, cells := 0, slots := 0, locals := 0 }) (va_Pc [.ref (ad 0), .int va, .int vb] (sz_P (dC, dI) vwCl (tyM cs) H)) (va_Qi (fun (z : Int32) (xi : Nat → Nat → Int32) => (z, xi) = F_sm_ask mu va vb ∧ okR loM hiM xi ∧ (z.toInt = vb.toInt) ∧ (∀ k f : Nat, Nat.testBit 510 (gpM k f) = true → xi k f = mu k f)) (fun xi t => va_P (dC, dI) vwCl (wR 21 ad (EM cs ad) xi) t.heap) (va_A (wR 21 ad (EM cs ad) mu) H.size)) 0 0 (va_A (wR 21 ad (EM cs ad) mu) H.size) := by
  refine Met.ofW (cc := cX12_ask) (maxL := 3) (ret := (some .int)) (by decide) rfl ?_
  intro p e s m args below meth c s₁ B hml hv
  obtain ⟨rfl, hh, hK, hz⟩ := hv
  have hx := B.exec
  have hb := B.bytes
  have hr := B.returns
  have hts := atoms_spec (ws := (wU yX12_ask cX12_ask 3 (some .int))) B.pre
  have hown : s.vm.findClass RX12 = some m.cls := findClass_of_methodNamed B.named
  have hlocks := B.notSynchronized
  subst hh
  have hD := hD0.self (sz := s.heap.size)
  have hA : ∀ q : Nat, s.heap.size ≤ q → (va_A (wR 21 ad (EM cs ad) mu) s.heap.size) q := fun q h => Or.inr h
  have hS : va_S (va_A (wR 21 ad (EM cs ad) mu) s.heap.size) s.heap s.heap [] := va_S.rf
  have hl := lv_entry ([.ref (ad 0), .int va, .int vb]) (n := 3) (Nat.le_of_ble_eq_true rfl)
  rw [lg_entry_eq]
  generalize (lg_sl ([.ref (ad 0), .int va, .int vb]) ++ List.replicate (3 - (lg_sl ([.ref (ad 0), .int va, .int vb])).length) Slot.unset).toArray = ls at hl ⊢
  have hl : lv_has ls 3 [(0, .ref (ad 0)), (1, .int va), (2, .int vb)] := hl
  obtain ⟨fz, hfz⟩ : ∃ z, F_sm_ask mu va vb = z := ⟨_, rfl⟩
  have hF := hfz
  unfold F_sm_ask at hF
  refine lv_aload_n hx hb dX12_ask_0 rfl (lv_at hl 0 rfl) ?_
  refine lv_iload_n hx hb dX12_ask_1 rfl (lv_at hl 1 rfl) ?_
  refine va_put (D := (dC, dI)) (ci := 12) (v := .int va) (ty := .int) (C := RX12) (T := TX12) (N := 46) hx hb hts inG12 tyX12 tyX12_ok nmX12 hown hK hP (wR_D mu hD) hS 0 (gM_0 cs ad mu) rfl 2 (by decide) (hts _ (List.mem_cons_of_mem _ mw_5_43)) (fun _ h9 => h9) rfl (by decide +kernel) rfl rfl (Nat.le_of_ble_eq_true rfl) dX12_ask_2 (fun H locs hP _ hS => ?_)
  simp only [List.set_cons_succ, List.set_cons_zero] at hP
  refine wr_gen (upd (mu 0) 2 va) hP ((hM_0_2 cs ad _ _)) (fun nu1 hn1 hP => ?_)
  have hF := mi_let hF hn1.symm
  have ok := tM_0_2 ok hn1
  have kp2 : (∀ k f : Nat, Nat.testBit 510 (gpM k f) = true → nu1 k f = mu k f) := kp_f hn1 (by decide) (fun _ _ _ => rfl)
  have ez3 : va = nu1 0 2 := up_v hn1
  refine lv_iload_n hx hb dX12_ask_5 rfl (lv_at hl 2 rfl) ?_
  exact W.iret (v := vb) hx hb hr (fun t ht hW => ⟨⟨vb, nu1, rfl, ⟨hF.trans hfz.symm, ok, (by omega), kp2⟩, by first | (subst ht; exact hP) | (rw [ht]; exact hP) | (show va_P (dC, dI) vwCl (wR 21 ad (EM cs ad) nu1) t.heap; rw [ht]; exact hP)⟩, hS.F ht⟩) hS.2.2 dX12_ask_6
set_option maxHeartbeats 4000000 in
set_option maxRecDepth 100000 in
/-- sm_askedRow -/
theorem sm_askedRow (l : Launch) (dC : Nat → ClassId) (dI : Nat → Nat → Nat) (cs : Nat → ClassId) (ad : Nat → Nat) (mu : Nat → Nat → Int32) (ok : okR loM hiM mu) (H : Heap) (hP : va_P (dC, dI) vwCl (wR 21 ad (EM cs ad) mu) H) (hD0 : va_D (fun _ => True) (wR 21 ad (EM cs ad) mu)) (vr : Int32) : Met l yX12_askedRow (wU yX12_askedRow cX12_askedRow 2 (some .int)) ({ frames := 2, cells := 0, slots := 0, locals := 42 }) (va_Pc [.ref (ad 0), .int vr] (sz_P (dC, dI) vwCl (tyM cs) H)) (va_Qi (fun (z : Int32) (xi : Nat → Nat → Int32) => (z, xi) = F_sm_askedRow mu vr ∧ ((z = 0 ∧ xi = mu ∧ (0 ≤ vr.toInt ∧ vr.toInt ≤ 5 ∧ 0 ≤ (mu 2 vr.toNatClampNeg).toInt)) ∨ (z.toInt < 0 ∧ okR loM hiM xi ∧ (∀ k f : Nat, Nat.testBit 510 (gpM k f) = true → xi k f = mu k f)))) (fun xi t => va_P (dC, dI) vwCl (wR 21 ad (EM cs ad) xi) t.heap) (va_A (wR 21 ad (EM cs ad) mu) H.size)) 0 0 (va_A (wR 21 ad (EM cs ad) mu) H.size) := by
  refine Met.ofW (cc := cX12_askedRow) (maxL := 2) (ret := (some .int)) (by decide) rfl ?_
  intro p e s m args below meth c s₁ B hml hv
  obtain ⟨rfl, hh, hK, hz⟩ := hv
  have hx := B.exec
  have hb := B.bytes
  have hr := B.returns
  have hts := atoms_spec (ws := (wU yX12_askedRow cX12_askedRow 2 (some .int))) B.pre
  have hown : s.vm.findClass RX12 = some m.cls := findClass_of_methodNamed B.named
  have hlocks := B.notSynchronized
  subst hh
  have hD := hD0.self (sz := s.heap.size)
  have hA : ∀ q : Nat, s.heap.size ≤ q → (va_A (wR 21 ad (EM cs ad) mu) s.heap.size) q := fun q h => Or.inr h
  have hS : va_S (va_A (wR 21 ad (EM cs ad) mu) s.heap.size) s.heap s.heap [] := va_S.rf
  have hl := lv_entry ([.ref (ad 0), .int vr]) (n := 2) (Nat.le_of_ble_eq_true rfl)
  rw [lg_entry_eq]
  generalize (lg_sl ([.ref (ad 0), .int vr]) ++ List.replicate (2 - (lg_sl ([.ref (ad 0), .int vr])).length) Slot.unset).toArray = ls at hl ⊢
  have hl : lv_has ls 2 [(0, .ref (ad 0)), (1, .int vr)] := hl
  obtain ⟨fz, hfz⟩ : ∃ z, F_sm_askedRow mu vr = z := ⟨_, rfl⟩
  have hF := hfz
  unfold F_sm_askedRow at hF
  refine lv_iload_n hx hb dX12_askedRow_0 rfl (lv_at hl 1 rfl) ?_
  refine cr_i (va_runS (As := [.int vr]) (rest := []) ⟨hx, hb, hml, hown, hts⟩ (sm_isRow l dC dI (tyM cs) s.heap vr) (va_cwS 1 hts (wU_S mw_5_186 mw_5_184 mw_5_185 mw_1_13) rfl rfl rfl (by decide +kernel) ⟨Nat.le_of_ble_eq_true rfl, Nat.le_of_ble_eq_true rfl⟩) ⟨sz_c, sz_m hK hz⟩ rfl rfl hl.1 rfl (lv_room (Nat.le_of_ble_eq_true rfl)) dX12_askedRow_1 ⟨Nat.zero_le _, Nat.zero_le _⟩) hS (fun r1 hw1 locs hS => ?_)
  obtain ⟨hfe1, hw1⟩ := hw1
  rcases hw1 with ⟨rfl, f1⟩ | ⟨rfl, f1⟩
  · have hF := (if_pos hfe1.symm).symm.trans hF
    have f1 : 0 ≤ vr.toInt ∧ vr.toInt ≤ 5 := f1
    refine lv_if_ne (tgt := 11) hx hb dX12_askedRow_4 (by decide) (fun _ => ?_) (fun c => absurd c (by decide))
    refine lv_aload_n hx hb dX12_askedRow_11 rfl (lv_at hl 0 rfl) ?_
    refine va_get (D := (dC, dI)) (ci := 12) (v := .ref (ad 2)) (C := RX12) (T := TX12) (N := 46) hx hb hts inG12 hown hK hP 0 (gM_0 cs ad mu) rfl 3 (by decide) (hts _ (List.mem_cons_of_mem _ mw_5_44)) (fun _ h9 => h9) rfl dX12_askedRow_12 ?_
    refine lv_iload_n hx hb dX12_askedRow_15 rfl (lv_at hl 1 rfl) ?_
    refine va_iald hx hb hK hP 2 0 (gM_2 cs ad mu) rfl (show vp_in vr 6 from vi_of (by omega) (by omega)) dX12_askedRow_16 ?_
    refine lv_topi (fun y2 ey2 => ?_)
    have hF := mi_let hF ey2
    have by2 : y2.toInt = (mu 2 vr.toNatClampNeg).toInt := congrArg Int32.toInt ey2
    have gy2 : -9 ≤ y2.toInt ∧ y2.toInt ≤ 40 := by rw [ey2]; exact rM_2_s ok vr.toNatClampNeg
    refine lv_if_ge (tgt := 28) hx hb dX12_askedRow_17 (by decide) (fun c_3 => ?_) (fun c_3 => ?_)
    · have hF := (if_pos c_3).symm.trans hF
      have c_3 : 0 ≤ y2.toInt := il_le c_3
      refine lv_iconst (v := 0) hx hb dX12_askedRow_28 (by decide) ?_
      exact W.iret (v := 0) hx hb hr (fun t ht hW => ⟨⟨0, mu, rfl, ⟨hF.trans hfz.symm, Or.inl ⟨rfl, rfl, (by have hb4 := congrArg Int32.toInt ey2; omega)⟩⟩, by first | (subst ht; exact hP) | (rw [ht]; exact hP) | (show va_P (dC, dI) vwCl (wR 21 ad (EM cs ad) mu) t.heap; rw [ht]; exact hP)⟩, hS.F ht⟩) hS.2.2 dX12_askedRow_29
    · have hF := (if_neg c_3).symm.trans hF
      have c_3 : y2.toInt < 0 := il_nle c_3
      refine lv_aload_n hx hb dX12_askedRow_20 rfl (lv_at hl 0 rfl) ?_
      refine lv_iconst (v := 1) hx hb dX12_askedRow_21 (by decide) ?_
      have hFc := fr_all (wR_D mu hD) hS hA
      refine va_calli (va_runV (As := [.int 1]) (rest := []) ⟨hx, hb, hml, hown, hts⟩ (sm_meet l dC dI cs ad mu ok s.heap hP ((wR_D mu hD).weaken (fun _ _ _ _ => trivial)) 1 (by have h50 : (1 : Int32).toInt = 1 := rfl; omega)) (cwV 1 hts (wU_V mw_5_193 mw_5_190 mw_5_192 mw_0_26 mw_1_13) rfl rfl rfl (by decide +kernel) ⟨Nat.le_of_ble_eq_true rfl, Nat.le_of_ble_eq_true rfl⟩) ⟨sz_c, va_recv hK hP (ci := 12) (q0 := 0) rfl (gM_0 cs ad mu), sz_m hK hz⟩ rfl rfl hl.1 rfl (lv_room (Nat.le_of_ble_eq_true rfl)) dX12_askedRow_22 ⟨Nat.zero_le _, Nat.zero_le _⟩) hS (fun q _ h => hFc q h) hFc (fun r5 xi5 t H5 locs ht hvm hw5 hB hz1 hk1 hS => ?_)
      have hP : va_P (dC, dI) vwCl (wR 21 ad (EM cs ad) xi5) H5 := by rw [← ht]; exact hB
      obtain ⟨hfe5, ok, hw5, hkp5_0⟩ := hw5
      have hF := mi_letp hF hfe5
      have kp6 : (∀ k f : Nat, Nat.testBit 510 (gpM k f) = true → xi5 k f = mu k f) := kp_t hkp5_0 (by decide) (fun _ _ _ => rfl)
      have gr5 : -3 ≤ r5.toInt ∧ r5.toInt ≤ -3 := hw5
      refine lv_goto (tgt := 29) hx hb dX12_askedRow_25 (by decide) ?_
      exact W.iret (v := r5) hx hb hr (fun t ht hW => ⟨⟨r5, xi5, rfl, ⟨hF.trans hfz.symm, Or.inr ⟨by omega, ok, kp6⟩⟩, by first | (subst ht; exact hP) | (rw [ht]; exact hP) | (show va_P (dC, dI) vwCl (wR 21 ad (EM cs ad) xi5) t.heap; rw [ht]; exact hP)⟩, hS.F ht⟩) hS.2.2 dX12_askedRow_29
  · have hF := (if_neg (fun h => absurd (hfe1.trans h) (by decide))).symm.trans hF
    have f1 : vr.toInt < 0 ∨ 5 < vr.toInt := f1
    refine lv_if_ne (tgt := 11) hx hb dX12_askedRow_4 (by decide) (fun c => absurd (by decide) c) (fun _ => ?_)
    refine lv_iconst (v := (-1)) hx hb dX12_askedRow_7 (by decide) ?_
    refine lv_goto (tgt := 29) hx hb dX12_askedRow_8 (by decide) ?_
    exact W.iret (v := (-1)) hx hb hr (fun t ht hW => ⟨⟨(-1), mu, rfl, ⟨hF.trans hfz.symm, Or.inr ⟨by decide, ok, (fun _ _ _ => rfl)⟩⟩, by first | (subst ht; exact hP) | (rw [ht]; exact hP) | (show va_P (dC, dI) vwCl (wR 21 ad (EM cs ad) mu) t.heap; rw [ht]; exact hP)⟩, hS.F ht⟩) hS.2.2 dX12_askedRow_29
set_option maxHeartbeats 4000000 in
set_option maxRecDepth 100000 in
/-- sm_askedText -/
theorem sm_askedText (l : Launch) (dC : Nat → ClassId) (dI : Nat → Nat → Nat) (cs : Nat → ClassId) (ad : Nat → Nat) (mu : Nat → Nat → Int32) (ok : okR loM hiM mu) (H : Heap) (hP : va_P (dC, dI) vwCl (wR 21 ad (EM cs ad) mu) H) (hD0 : va_D (fun _ => True) (wR 21 ad (EM cs ad) mu)) (vt : Int32) : Met l yX12_askedText (wU yX12_askedText cX12_askedText 2 (some .int)) ({ frames := 2, cells := 0, slots := 0, locals := 42 }) (va_Pc [.ref (ad 0), .int vt] (sz_P (dC, dI) vwCl (tyM cs) H)) (va_Qi (fun (z : Int32) (xi : Nat → Nat → Int32) => (z, xi) = F_sm_askedText mu vt ∧ ((z = 0 ∧ xi = mu ∧ (0 ≤ vt.toInt ∧ vt.toInt ≤ 3 ∧ 0 ≤ (mu 5 vt.toNatClampNeg).toInt)) ∨ (z.toInt < 0 ∧ okR loM hiM xi ∧ (∀ k f : Nat, Nat.testBit 510 (gpM k f) = true → xi k f = mu k f)))) (fun xi t => va_P (dC, dI) vwCl (wR 21 ad (EM cs ad) xi) t.heap) (va_A (wR 21 ad (EM cs ad) mu) H.size)) 0 0 (va_A (wR 21 ad (EM cs ad) mu) H.size) := by
  refine Met.ofW (cc := cX12_askedText) (maxL := 2) (ret := (some .int)) (by decide) rfl ?_
  intro p e s m args below meth c s₁ B hml hv
  obtain ⟨rfl, hh, hK, hz⟩ := hv
  have hx := B.exec
  have hb := B.bytes
  have hr := B.returns
  have hts := atoms_spec (ws := (wU yX12_askedText cX12_askedText 2 (some .int))) B.pre
  have hown : s.vm.findClass RX12 = some m.cls := findClass_of_methodNamed B.named
  have hlocks := B.notSynchronized
  subst hh
  have hD := hD0.self (sz := s.heap.size)
  have hA : ∀ q : Nat, s.heap.size ≤ q → (va_A (wR 21 ad (EM cs ad) mu) s.heap.size) q := fun q h => Or.inr h
  have hS : va_S (va_A (wR 21 ad (EM cs ad) mu) s.heap.size) s.heap s.heap [] := va_S.rf
  have hl := lv_entry ([.ref (ad 0), .int vt]) (n := 2) (Nat.le_of_ble_eq_true rfl)
  rw [lg_entry_eq]
  generalize (lg_sl ([.ref (ad 0), .int vt]) ++ List.replicate (2 - (lg_sl ([.ref (ad 0), .int vt])).length) Slot.unset).toArray = ls at hl ⊢
  have hl : lv_has ls 2 [(0, .ref (ad 0)), (1, .int vt)] := hl
  obtain ⟨fz, hfz⟩ : ∃ z, F_sm_askedText mu vt = z := ⟨_, rfl⟩
  have hF := hfz
  unfold F_sm_askedText at hF
  refine lv_iload_n hx hb dX12_askedText_0 rfl (lv_at hl 1 rfl) ?_
  refine cr_i (va_runS (As := [.int vt]) (rest := []) ⟨hx, hb, hml, hown, hts⟩ (sm_isText l dC dI (tyM cs) s.heap vt) (va_cwS 1 hts (wU_S mw_5_237 mw_5_235 mw_5_236 mw_1_13) rfl rfl rfl (by decide +kernel) ⟨Nat.le_of_ble_eq_true rfl, Nat.le_of_ble_eq_true rfl⟩) ⟨sz_c, sz_m hK hz⟩ rfl rfl hl.1 rfl (lv_room (Nat.le_of_ble_eq_true rfl)) dX12_askedText_1 ⟨Nat.zero_le _, Nat.zero_le _⟩) hS (fun r1 hw1 locs hS => ?_)
  obtain ⟨hfe1, hw1⟩ := hw1
  rcases hw1 with ⟨rfl, f1⟩ | ⟨rfl, f1⟩
  · have hF := (if_pos hfe1.symm).symm.trans hF
    have f1 : 0 ≤ vt.toInt ∧ vt.toInt ≤ 3 := f1
    refine lv_if_ne (tgt := 11) hx hb dX12_askedText_4 (by decide) (fun _ => ?_) (fun c => absurd c (by decide))
    refine lv_aload_n hx hb dX12_askedText_11 rfl (lv_at hl 0 rfl) ?_
    refine va_get (D := (dC, dI)) (ci := 12) (v := .ref (ad 5)) (C := RX12) (T := TX12) (N := 46) hx hb hts inG12 hown hK hP 0 (gM_0 cs ad mu) rfl 6 (by decide) (hts _ (List.mem_cons_of_mem _ mw_5_47)) (fun _ h9 => h9) rfl dX12_askedText_12 ?_
    refine lv_iload_n hx hb dX12_askedText_15 rfl (lv_at hl 1 rfl) ?_
    refine va_iald hx hb hK hP 5 0 (gM_5 cs ad mu) rfl (show vp_in vt 4 from vi_of (by omega) (by omega)) dX12_askedText_16 ?_
    refine lv_topi (fun y2 ey2 => ?_)
    have hF := mi_let hF ey2
    have by2 : y2.toInt = (mu 5 vt.toNatClampNeg).toInt := congrArg Int32.toInt ey2
    have gy2 : -9 ≤ y2.toInt ∧ y2.toInt ≤ 80 := by rw [ey2]; exact rM_5_s ok vt.toNatClampNeg
    refine lv_if_ge (tgt := 28) hx hb dX12_askedText_17 (by decide) (fun c_3 => ?_) (fun c_3 => ?_)
    · have hF := (if_pos c_3).symm.trans hF
      have c_3 : 0 ≤ y2.toInt := il_le c_3
      refine lv_iconst (v := 0) hx hb dX12_askedText_28 (by decide) ?_
      exact W.iret (v := 0) hx hb hr (fun t ht hW => ⟨⟨0, mu, rfl, ⟨hF.trans hfz.symm, Or.inl ⟨rfl, rfl, (by have hb4 := congrArg Int32.toInt ey2; omega)⟩⟩, by first | (subst ht; exact hP) | (rw [ht]; exact hP) | (show va_P (dC, dI) vwCl (wR 21 ad (EM cs ad) mu) t.heap; rw [ht]; exact hP)⟩, hS.F ht⟩) hS.2.2 dX12_askedText_29
    · have hF := (if_neg c_3).symm.trans hF
      have c_3 : y2.toInt < 0 := il_nle c_3
      refine lv_aload_n hx hb dX12_askedText_20 rfl (lv_at hl 0 rfl) ?_
      refine lv_iconst (v := 1) hx hb dX12_askedText_21 (by decide) ?_
      have hFc := fr_all (wR_D mu hD) hS hA
      refine va_calli (va_runV (As := [.int 1]) (rest := []) ⟨hx, hb, hml, hown, hts⟩ (sm_meet l dC dI cs ad mu ok s.heap hP ((wR_D mu hD).weaken (fun _ _ _ _ => trivial)) 1 (by have h50 : (1 : Int32).toInt = 1 := rfl; omega)) (cwV 1 hts (wU_V mw_5_193 mw_5_190 mw_5_192 mw_0_26 mw_1_13) rfl rfl rfl (by decide +kernel) ⟨Nat.le_of_ble_eq_true rfl, Nat.le_of_ble_eq_true rfl⟩) ⟨sz_c, va_recv hK hP (ci := 12) (q0 := 0) rfl (gM_0 cs ad mu), sz_m hK hz⟩ rfl rfl hl.1 rfl (lv_room (Nat.le_of_ble_eq_true rfl)) dX12_askedText_22 ⟨Nat.zero_le _, Nat.zero_le _⟩) hS (fun q _ h => hFc q h) hFc (fun r5 xi5 t H5 locs ht hvm hw5 hB hz1 hk1 hS => ?_)
      have hP : va_P (dC, dI) vwCl (wR 21 ad (EM cs ad) xi5) H5 := by rw [← ht]; exact hB
      obtain ⟨hfe5, ok, hw5, hkp5_0⟩ := hw5
      have hF := mi_letp hF hfe5
      have kp6 : (∀ k f : Nat, Nat.testBit 510 (gpM k f) = true → xi5 k f = mu k f) := kp_t hkp5_0 (by decide) (fun _ _ _ => rfl)
      have gr5 : -3 ≤ r5.toInt ∧ r5.toInt ≤ -3 := hw5
      refine lv_goto (tgt := 29) hx hb dX12_askedText_25 (by decide) ?_
      exact W.iret (v := r5) hx hb hr (fun t ht hW => ⟨⟨r5, xi5, rfl, ⟨hF.trans hfz.symm, Or.inr ⟨by omega, ok, kp6⟩⟩, by first | (subst ht; exact hP) | (rw [ht]; exact hP) | (show va_P (dC, dI) vwCl (wR 21 ad (EM cs ad) xi5) t.heap; rw [ht]; exact hP)⟩, hS.F ht⟩) hS.2.2 dX12_askedText_29
  · have hF := (if_neg (fun h => absurd (hfe1.trans h) (by decide))).symm.trans hF
    have f1 : vt.toInt < 0 ∨ 3 < vt.toInt := f1
    refine lv_if_ne (tgt := 11) hx hb dX12_askedText_4 (by decide) (fun c => absurd (by decide) c) (fun _ => ?_)
    refine lv_iconst (v := (-1)) hx hb dX12_askedText_7 (by decide) ?_
    refine lv_goto (tgt := 29) hx hb dX12_askedText_8 (by decide) ?_
    exact W.iret (v := (-1)) hx hb hr (fun t ht hW => ⟨⟨(-1), mu, rfl, ⟨hF.trans hfz.symm, Or.inr ⟨by decide, ok, (fun _ _ _ => rfl)⟩⟩, by first | (subst ht; exact hP) | (rw [ht]; exact hP) | (show va_P (dC, dI) vwCl (wR 21 ad (EM cs ad) mu) t.heap; rw [ht]; exact hP)⟩, hS.F ht⟩) hS.2.2 dX12_askedText_29
set_option maxHeartbeats 4000000 in
set_option maxRecDepth 100000 in
/-- sm_rowAt -/
theorem sm_rowAt (l : Launch) (dC : Nat → ClassId) (dI : Nat → Nat → Nat) (cs : Nat → ClassId) (ad : Nat → Nat) (mu : Nat → Nat → Int32) (ok : okR loM hiM mu) (H : Heap) (hP : va_P (dC, dI) vwCl (wR 21 ad (EM cs ad) mu) H) (vr : Int32) (vi : Int32) (hin0 : 0 ≤ vr.toInt ∧ vr.toInt ≤ 5 ∧ 0 ≤ vi.toInt ∧ vi.toInt ≤ 39) : Met l yX12_rowAt (wU yX12_rowAt cX12_rowAt 3 (some .int)) ({ frames := 0, cells := 0, slots := 0, locals := 0 }) (va_Pc [.ref (ad 0), .int vr, .int vi] (sz_P (dC, dI) vwCl (tyM cs) H)) (va_Qi (fun (z : Int32) (_ : Unit) => True) (fun _ t => t.heap = H) (fun _ => False)) 0 0 (fun _ => False) := by
  refine Met.ofW (cc := cX12_rowAt) (maxL := 3) (ret := (some .int)) (by decide) rfl ?_
  intro p e s m args below meth c s₁ B hml hv
  obtain ⟨rfl, hh, hK, hz⟩ := hv
  have hx := B.exec
  have hb := B.bytes
  have hr := B.returns
  have hts := atoms_spec (ws := (wU yX12_rowAt cX12_rowAt 3 (some .int))) B.pre
  have hown : s.vm.findClass RX12 = some m.cls := findClass_of_methodNamed B.named
  have hlocks := B.notSynchronized
  subst hh
  have hS : va_S (fun _ => False) s.heap s.heap [] := va_S.rf
  have hl := lv_entry ([.ref (ad 0), .int vr, .int vi]) (n := 3) (Nat.le_of_ble_eq_true rfl)
  rw [lg_entry_eq]
  generalize (lg_sl ([.ref (ad 0), .int vr, .int vi]) ++ List.replicate (3 - (lg_sl ([.ref (ad 0), .int vr, .int vi])).length) Slot.unset).toArray = ls at hl ⊢
  have hl : lv_has ls 3 [(0, .ref (ad 0)), (1, .int vr), (2, .int vi)] := hl
  refine lv_aload_n hx hb dX12_rowAt_0 rfl (lv_at hl 0 rfl) ?_
  refine va_get (D := (dC, dI)) (ci := 12) (v := .ref (ad 3)) (C := RX12) (T := TX12) (N := 46) hx hb hts inG12 hown hK hP 0 (gM_0 cs ad mu) rfl 4 (by decide) (hts _ (List.mem_cons_of_mem _ mw_5_45)) (fun _ h9 => h9) rfl dX12_rowAt_1 ?_
  refine lv_bipush (v := 40) hx hb dX12_rowAt_4 (by decide) ?_
  refine lv_iload_n hx hb dX12_rowAt_6 rfl (lv_at hl 1 rfl) ?_
  refine lv_imul hx hb dX12_rowAt_7 ?_
  refine lv_topi (fun t1 et1 => ?_)
  have at1 : t1.toInt = 40 * vr.toInt := by rw [et1]; exact tI_mul (rfl : (40 : Int32).toInt = 40) (rfl : vr.toInt = _) (by omega) (by omega)
  refine lv_iload_n hx hb dX12_rowAt_8 rfl (lv_at hl 2 rfl) ?_
  refine lv_iadd hx hb dX12_rowAt_9 ?_
  refine lv_topi (fun t2 et2 => ?_)
  have at2 : t2.toInt = t1.toInt + vi.toInt := by rw [et2]; exact tI_add (rfl : t1.toInt = _) (rfl : vi.toInt = _) (by omega) (by omega)
  refine va_iald hx hb hK hP 3 0 (gM_3 cs ad mu) rfl (show vp_in t2 240 from vi_of (by omega) (by omega)) dX12_rowAt_10 ?_
  refine lv_topi (fun y3 ey3 => ?_)
  have by3 : y3.toInt = (mu 3 t2.toNatClampNeg).toInt := congrArg Int32.toInt ey3
  exact W.iret (v := y3) hx hb hr (fun t ht hW => ⟨⟨y3, (), rfl, trivial, ht⟩, hS.F ht⟩) hS.2.2 dX12_rowAt_11
set_option maxHeartbeats 4000000 in
set_option maxRecDepth 100000 in
/-- sm_setRow -/
theorem sm_setRow (l : Launch) (dC : Nat → ClassId) (dI : Nat → Nat → Nat) (cs : Nat → ClassId) (ad : Nat → Nat) (mu : Nat → Nat → Int32) (ok : okR loM hiM mu) (H : Heap) (hP : va_P (dC, dI) vwCl (wR 21 ad (EM cs ad) mu) H) (hD0 : va_D (fun _ => True) (wR 21 ad (EM cs ad) mu)) (vr : Int32) (vi : Int32) (vv : Int32) (hin0 : 0 ≤ vr.toInt ∧ vr.toInt ≤ 5 ∧ 0 ≤ vi.toInt ∧ vi.toInt ≤ 39) : Met l yX12_setRow (wU yX12_setRow cX12_setRow 4 none) ({ frames := 0, cells := 0, slots := 0, locals := 0 }) (va_Pc [.ref (ad 0), .int vr, .int vi, .int vv] (sz_P (dC, dI) vwCl (tyM cs) H)) (va_Qv (fun (xi : Nat → Nat → Int32) => okR loM hiM xi ∧ (True) ∧ (∀ k f : Nat, Nat.testBit 510 (gpM k f) = true → xi k f = mu k f)) (fun xi t => va_P (dC, dI) vwCl (wR 21 ad (EM cs ad) xi) t.heap) (va_A (wR 21 ad (EM cs ad) mu) H.size)) 0 0 (va_A (wR 21 ad (EM cs ad) mu) H.size) := by
  refine Met.ofW (cc := cX12_setRow) (maxL := 4) (ret := none) (by decide) rfl ?_
  intro p e s m args below meth c s₁ B hml hv
  obtain ⟨rfl, hh, hK, hz⟩ := hv
  have hx := B.exec
  have hb := B.bytes
  have hr := B.returns
  have hts := atoms_spec (ws := (wU yX12_setRow cX12_setRow 4 none)) B.pre
  have hown : s.vm.findClass RX12 = some m.cls := findClass_of_methodNamed B.named
  have hlocks := B.notSynchronized
  subst hh
  have hD := hD0.self (sz := s.heap.size)
  have hA : ∀ q : Nat, s.heap.size ≤ q → (va_A (wR 21 ad (EM cs ad) mu) s.heap.size) q := fun q h => Or.inr h
  have hS : va_S (va_A (wR 21 ad (EM cs ad) mu) s.heap.size) s.heap s.heap [] := va_S.rf
  have hl := lv_entry ([.ref (ad 0), .int vr, .int vi, .int vv]) (n := 4) (Nat.le_of_ble_eq_true rfl)
  rw [lg_entry_eq]
  generalize (lg_sl ([.ref (ad 0), .int vr, .int vi, .int vv]) ++ List.replicate (4 - (lg_sl ([.ref (ad 0), .int vr, .int vi, .int vv])).length) Slot.unset).toArray = ls at hl ⊢
  have hl : lv_has ls 4 [(0, .ref (ad 0)), (1, .int vr), (2, .int vi), (3, .int vv)] := hl
  refine lv_aload_n hx hb dX12_setRow_0 rfl (lv_at hl 0 rfl) ?_
  refine va_get (D := (dC, dI)) (ci := 12) (v := .ref (ad 3)) (C := RX12) (T := TX12) (N := 46) hx hb hts inG12 hown hK hP 0 (gM_0 cs ad mu) rfl 4 (by decide) (hts _ (List.mem_cons_of_mem _ mw_5_45)) (fun _ h9 => h9) rfl dX12_setRow_1 ?_
  refine lv_bipush (v := 40) hx hb dX12_setRow_4 (by decide) ?_
  refine lv_iload_n hx hb dX12_setRow_6 rfl (lv_at hl 1 rfl) ?_
  refine lv_imul hx hb dX12_setRow_7 ?_
  refine lv_topi (fun t1 et1 => ?_)
  have at1 : t1.toInt = 40 * vr.toInt := by rw [et1]; exact tI_mul (rfl : (40 : Int32).toInt = 40) (rfl : vr.toInt = _) (by omega) (by omega)
  refine lv_iload_n hx hb dX12_setRow_8 rfl (lv_at hl 2 rfl) ?_
  refine lv_iadd hx hb dX12_setRow_9 ?_
  refine lv_topi (fun t2 et2 => ?_)
  have at2 : t2.toInt = t1.toInt + vi.toInt := by rw [et2]; exact tI_add (rfl : t1.toInt = _) (rfl : vi.toInt = _) (by omega) (by omega)
  refine lv_iload_n hx hb dX12_setRow_10 rfl (lv_at hl 3 rfl) ?_
  refine va_iast hx hb hK hP (wR_D mu hD) hS 3 0 (gM_3 cs ad mu) rfl (show vp_in t2 240 from vi_of (by omega) (by omega)) dX12_setRow_11 (fun H locs hP _ hS => ?_)
  refine wr_gen (upd (mu 3) t2.toNatClampNeg vv) hP (rfl) (fun nu3 hn3 hP => ?_)
  have ok := tM_3_s ok t2.toNatClampNeg hn3
  have kp4 : (∀ k f : Nat, Nat.testBit 510 (gpM k f) = true → nu3 k f = mu k f) := kp_c 0 hn3 (fun _ => rfl) (by decide) (fun _ _ _ => rfl)
  exact W.vret hx hb hr (fun t ht hW => ⟨⟨nu3, rfl, ⟨ok, trivial, kp4⟩, by first | (subst ht; exact hP) | (rw [ht]; exact hP) | (show va_P (dC, dI) vwCl (wR 21 ad (EM cs ad) nu3) t.heap; rw [ht]; exact hP)⟩, hS.F ht⟩) hS.2.2 dX12_setRow_12
