def jn (a b : Int32) : Int64 := Int64.ofBitVec (a.toBitVec ++ b.toBitVec)
theorem jn_of (v : Int64) : ∃ a b : Int32, jn a b = v := by
  refine ⟨Int32.ofBitVec (v.toBitVec.extractLsb' 32 32), Int32.ofBitVec (v.toBitVec.extractLsb' 0 32), ?_⟩
  apply Int64.toBitVec_inj.mp
  show (v.toBitVec.extractLsb' 32 32 ++ v.toBitVec.extractLsb' 0 32) = v.toBitVec
  apply BitVec.eq_of_getLsbD_eq
  intro i hi
  rw [BitVec.getLsbD_append]
  by_cases h : i < 32
  · simp [h]
  · simp [h, show 32 + (i - 32) = i by omega]
    omega
def EM (cs : Nat → ClassId) (ad : Nat → Nat) (k : Nat) (g : Nat → Int32) : va_E := match k with
  | 0 => .inr (12, [.int (g 0), .ref (ad 1), .int (g 2), .ref (ad 2), .ref (ad 3), .ref (ad 4), .ref (ad 5), .ref (ad 6), .int (g 8), .ref (ad 7), .ref (ad 8), .int (g 11), .ref (ad 9), .int (g 13), .int (g 14), .int (g 15), .ref (ad 10), .int (g 17), .int (g 18), .int (g 19), .int (g 20), .ref (ad 11), .ref (ad 12), .ref (ad 13), .ref (ad 14), .ref (ad 15), .ref (ad 16), .ref (ad 17), .ref (ad 18), .int (g 29), .int (g 30), .int (g 31), .int (g 32), .int (g 33), .int (g 34), .int (g 35), .int (g 36), .int (g 37), .int (g 38), .int (g 39), .ref (ad 19), .ref (ad 20), .int (g 42), .int (g 43), .int (g 44), .long (jn (g 45) (g 46))])
  | 1 => .inl (cs 0, 6, .inl g)
  | 2 => .inl (cs 0, 6, .inl g)
  | 3 => .inl (cs 0, 240, .inl g)
  | 4 => .inl (cs 0, 40, .inl g)
  | 5 => .inl (cs 0, 4, .inl g)
  | 6 => .inl (cs 0, 320, .inl g)
  | 7 => .inl (cs 0, 7, .inl g)
  | 8 => .inl (cs 0, 7, .inl g)
  | 9 => .inl (cs 0, 24, .inl g)
  | 10 => .inl (cs 0, 40, .inl g)
  | 11 => .inl (cs 0, 7, .inl g)
  | 12 => .inl (cs 0, 7, .inl g)
  | 13 => .inl (cs 0, 24, .inl g)
  | 14 => .inl (cs 0, 480, .inl g)
  | 15 => .inl (cs 0, 192, .inl g)
  | 16 => .inl (cs 0, 7, .inl g)
  | 17 => .inl (cs 0, 7, .inl g)
  | 18 => .inl (cs 0, 7, .inl g)
  | 19 => .inl (cs 0, 7, .inl g)
  | _ => .inl (cs 0, 7, .inl g)
def tyM (cs : Nat → ClassId) : List (ClassId × FieldType) := [(cs 0, .int)]
theorem gM_0 (cs : Nat → ClassId) (ad : Nat → Nat) (mu : Nat → Nat → Int32) : (wR 21 ad (EM cs ad) mu)[0]? = some (ad 0, .inr (12, [.int (mu 0 0), .ref (ad 1), .int (mu 0 2), .ref (ad 2), .ref (ad 3), .ref (ad 4), .ref (ad 5), .ref (ad 6), .int (mu 0 8), .ref (ad 7), .ref (ad 8), .int (mu 0 11), .ref (ad 9), .int (mu 0 13), .int (mu 0 14), .int (mu 0 15), .ref (ad 10), .int (mu 0 17), .int (mu 0 18), .int (mu 0 19), .int (mu 0 20), .ref (ad 11), .ref (ad 12), .ref (ad 13), .ref (ad 14), .ref (ad 15), .ref (ad 16), .ref (ad 17), .ref (ad 18), .int (mu 0 29), .int (mu 0 30), .int (mu 0 31), .int (mu 0 32), .int (mu 0 33), .int (mu 0 34), .int (mu 0 35), .int (mu 0 36), .int (mu 0 37), .int (mu 0 38), .int (mu 0 39), .ref (ad 19), .ref (ad 20), .int (mu 0 42), .int (mu 0 43), .int (mu 0 44), .long (jn (mu 0 45) (mu 0 46))])) := wR_get 0 (by decide)
theorem gM_1 (cs : Nat → ClassId) (ad : Nat → Nat) (mu : Nat → Nat → Int32) : (wR 21 ad (EM cs ad) mu)[1]? = some (ad 1, .inl (cs 0, 6, .inl (mu 1))) := wR_get 1 (by decide)
theorem gM_2 (cs : Nat → ClassId) (ad : Nat → Nat) (mu : Nat → Nat → Int32) : (wR 21 ad (EM cs ad) mu)[2]? = some (ad 2, .inl (cs 0, 6, .inl (mu 2))) := wR_get 2 (by decide)
theorem gM_3 (cs : Nat → ClassId) (ad : Nat → Nat) (mu : Nat → Nat → Int32) : (wR 21 ad (EM cs ad) mu)[3]? = some (ad 3, .inl (cs 0, 240, .inl (mu 3))) := wR_get 3 (by decide)
theorem gM_4 (cs : Nat → ClassId) (ad : Nat → Nat) (mu : Nat → Nat → Int32) : (wR 21 ad (EM cs ad) mu)[4]? = some (ad 4, .inl (cs 0, 40, .inl (mu 4))) := wR_get 4 (by decide)
theorem gM_5 (cs : Nat → ClassId) (ad : Nat → Nat) (mu : Nat → Nat → Int32) : (wR 21 ad (EM cs ad) mu)[5]? = some (ad 5, .inl (cs 0, 4, .inl (mu 5))) := wR_get 5 (by decide)
theorem gM_6 (cs : Nat → ClassId) (ad : Nat → Nat) (mu : Nat → Nat → Int32) : (wR 21 ad (EM cs ad) mu)[6]? = some (ad 6, .inl (cs 0, 320, .inl (mu 6))) := wR_get 6 (by decide)
theorem gM_7 (cs : Nat → ClassId) (ad : Nat → Nat) (mu : Nat → Nat → Int32) : (wR 21 ad (EM cs ad) mu)[7]? = some (ad 7, .inl (cs 0, 7, .inl (mu 7))) := wR_get 7 (by decide)
theorem gM_8 (cs : Nat → ClassId) (ad : Nat → Nat) (mu : Nat → Nat → Int32) : (wR 21 ad (EM cs ad) mu)[8]? = some (ad 8, .inl (cs 0, 7, .inl (mu 8))) := wR_get 8 (by decide)
theorem gM_9 (cs : Nat → ClassId) (ad : Nat → Nat) (mu : Nat → Nat → Int32) : (wR 21 ad (EM cs ad) mu)[9]? = some (ad 9, .inl (cs 0, 24, .inl (mu 9))) := wR_get 9 (by decide)
theorem gM_10 (cs : Nat → ClassId) (ad : Nat → Nat) (mu : Nat → Nat → Int32) : (wR 21 ad (EM cs ad) mu)[10]? = some (ad 10, .inl (cs 0, 40, .inl (mu 10))) := wR_get 10 (by decide)
theorem gM_11 (cs : Nat → ClassId) (ad : Nat → Nat) (mu : Nat → Nat → Int32) : (wR 21 ad (EM cs ad) mu)[11]? = some (ad 11, .inl (cs 0, 7, .inl (mu 11))) := wR_get 11 (by decide)
theorem gM_12 (cs : Nat → ClassId) (ad : Nat → Nat) (mu : Nat → Nat → Int32) : (wR 21 ad (EM cs ad) mu)[12]? = some (ad 12, .inl (cs 0, 7, .inl (mu 12))) := wR_get 12 (by decide)
theorem gM_13 (cs : Nat → ClassId) (ad : Nat → Nat) (mu : Nat → Nat → Int32) : (wR 21 ad (EM cs ad) mu)[13]? = some (ad 13, .inl (cs 0, 24, .inl (mu 13))) := wR_get 13 (by decide)
theorem gM_14 (cs : Nat → ClassId) (ad : Nat → Nat) (mu : Nat → Nat → Int32) : (wR 21 ad (EM cs ad) mu)[14]? = some (ad 14, .inl (cs 0, 480, .inl (mu 14))) := wR_get 14 (by decide)
theorem gM_15 (cs : Nat → ClassId) (ad : Nat → Nat) (mu : Nat → Nat → Int32) : (wR 21 ad (EM cs ad) mu)[15]? = some (ad 15, .inl (cs 0, 192, .inl (mu 15))) := wR_get 15 (by decide)
theorem gM_16 (cs : Nat → ClassId) (ad : Nat → Nat) (mu : Nat → Nat → Int32) : (wR 21 ad (EM cs ad) mu)[16]? = some (ad 16, .inl (cs 0, 7, .inl (mu 16))) := wR_get 16 (by decide)
theorem gM_17 (cs : Nat → ClassId) (ad : Nat → Nat) (mu : Nat → Nat → Int32) : (wR 21 ad (EM cs ad) mu)[17]? = some (ad 17, .inl (cs 0, 7, .inl (mu 17))) := wR_get 17 (by decide)
theorem gM_18 (cs : Nat → ClassId) (ad : Nat → Nat) (mu : Nat → Nat → Int32) : (wR 21 ad (EM cs ad) mu)[18]? = some (ad 18, .inl (cs 0, 7, .inl (mu 18))) := wR_get 18 (by decide)
theorem gM_19 (cs : Nat → ClassId) (ad : Nat → Nat) (mu : Nat → Nat → Int32) : (wR 21 ad (EM cs ad) mu)[19]? = some (ad 19, .inl (cs 0, 7, .inl (mu 19))) := wR_get 19 (by decide)
theorem gM_20 (cs : Nat → ClassId) (ad : Nat → Nat) (mu : Nat → Nat → Int32) : (wR 21 ad (EM cs ad) mu)[20]? = some (ad 20, .inl (cs 0, 7, .inl (mu 20))) := wR_get 20 (by decide)
def clM (k : Nat) : Nat := if k < 1 then 0 else if k < 2 then 1 else if k < 3 then 2 else if k < 5 then 3 else if k < 6 then 4 else if k < 10 then 5 else if k < 11 then 6 else if k < 14 then 7 else if k < 15 then 8 else if k < 16 then 9 else if k < 17 then 10 else 11
def loMc (c f : Nat) : Int := match c with
  | 0 => (match f with | 8 => 0 | 11 => 0 | 15 => 0 | 17 => 0 | 18 => 0 | 19 => 0 | 20 => 0 | 32 => 0 | 38 => 0 | 39 => -9 | _ => -2147483648)
  | 2 => -9
  | 4 => -9
  | 6 => if f % 10 = 5 then 0 else -2147483648
  | 8 => if f % 12 = 0 then 0 else if f % 12 = 1 then 0 else -2147483648
  | 9 => if f % 64 = 2 then 0 else if f % 64 = 15 then 0 else if f % 64 = 25 then 0 else if f % 64 = 35 then 0 else if f % 64 = 45 then 0 else -2147483648
  | 10 => 0
  | _ => -2147483648
def loM (k f : Nat) : Int := loMc (clM k) f
def hiMc (c f : Nat) : Int := match c with
  | 0 => (match f with | 8 => 7 | 11 => 12 | 15 => 4 | 17 => 40 | 18 => 90 | 19 => 7 | 20 => 12 | 32 => 7 | 38 => 1 | 39 => 3 | _ => 2147483647)
  | 2 => 40
  | 4 => 80
  | 6 => if f % 10 = 5 then 6 else 2147483647
  | 8 => if f % 12 = 0 then 3 else if f % 12 = 1 then 6 else 2147483647
  | 9 => if f % 64 = 2 then 4 else if f % 64 = 15 then 6 else if f % 64 = 25 then 6 else if f % 64 = 35 then 6 else if f % 64 = 45 then 6 else 2147483647
  | 10 => 6
  | _ => 2147483647
def hiM (k f : Nat) : Int := hiMc (clM k) f
-- ===== bits (the family of the kit's BITS, what is used of it) =====
def bt (x : Int32) (i : Nat) : Bool := x.toBitVec.getLsbD i
theorem b_ext {x y : Int32} (h : ∀ i, i < 32 → bt x i = bt y i) : x = y := Int32.toBitVec_inj.mp (BitVec.eq_of_getLsbD_eq (fun i hi => h i hi))
theorem b_or (x y : Int32) (i : Nat) : bt (x ||| y) i = (bt x i || bt y i) := by unfold bt; rw [Int32.toBitVec_or, BitVec.getLsbD_or]
theorem b_and (x y : Int32) (i : Nat) : bt (x &&& y) i = (bt x i && bt y i) := by unfold bt; rw [Int32.toBitVec_and, BitVec.getLsbD_and]
theorem b_xor (x y : Int32) (i : Nat) : bt (x ^^^ y) i = (bt x i ^^ bt y i) := by unfold bt; rw [Int32.toBitVec_xor, BitVec.getLsbD_xor]
theorem b_m1 : ∀ i, i < 32 → bt (-1) i = true := by decide +kernel
theorem s_l : ∀ n, n < 32 → ((nI n &&& 31).toBitVec.smod 32).toNat = n := by decide +kernel
theorem b_shl (n : Nat) (hn : n < 32) (x : Int32) {i : Nat} (hi : i < 32) : bt (x <<< (nI n &&& 31)) i = (decide (n ≤ i) && bt x (i - n)) := by
  unfold bt
  rw [Int32.toBitVec_shiftLeft]
  show (x.toBitVec <<< ((nI n &&& 31).toBitVec.smod 32).toNat).getLsbD i = _
  rw [s_l n hn, BitVec.getLsbD_shiftLeft]
  rcases Nat.lt_or_ge i n with h | h
  · simp [h, Nat.not_le.mpr h]
  · simp [hi, h, Nat.not_lt.mpr h]
theorem b_sshr (n : Nat) (hn : n < 32) (x : Int32) {i : Nat} (hi : i < 32) : bt (x >>> (nI n &&& 31)) i = if n + i < 32 then bt x (n + i) else bt x 31 := by
  unfold bt
  rw [Int32.toBitVec_shiftRight]
  show (x.toBitVec.sshiftRight ((nI n &&& 31).toBitVec.smod 32).toNat).getLsbD i = _
  rw [s_l n hn, BitVec.getLsbD_sshiftRight, BitVec.msb_eq_getLsbD_last]
  simp [hi]
/-- what the reference's has() looks at -/
def rb (x k : Int32) : Int32 := (x >>> (k &&& 31)) &&& 1
theorem b_1 : ∀ i, i < 32 → bt 1 i = decide (i = 0) := by decide +kernel
theorem nI_at {k : Int32} (h : 0 ≤ k.toInt) : k = nI k.toNatClampNeg := by
  apply Int32.toInt_inj.mp
  have h1 := tC_of h
  have h2 := Int32.toInt_lt k
  rw [nI_toInt (by omega)]
  omega
theorem rb_bt {x k : Int32} (h1 : 0 ≤ k.toInt) (h2 : k.toInt ≤ 31) : rb x k = if bt x k.toNatClampNeg then 1 else 0 := by
  have h3 := tC_of h1
  have hn : k.toNatClampNeg < 32 := by omega
  rw [nI_at h1]
  have h4 : (nI k.toNatClampNeg).toNatClampNeg = k.toNatClampNeg := by rw [← nI_at h1]
  rw [h4]
  generalize k.toNatClampNeg = n at hn
  apply b_ext
  intro i hi
  unfold rb
  rw [b_and, b_sshr n hn x hi, b_1 i hi]
  by_cases c : i = 0
  · subst c
    simp only [Nat.add_zero, if_pos hn]
    cases bt x n <;> simp <;> decide
  · simp only [c, decide_false, Bool.and_false]
    have z0 : ∀ i, i < 32 → bt 0 i = false := by decide +kernel
    have z1 : ∀ i, i < 32 → i ≠ 0 → bt 1 i = false := by decide +kernel
    cases bt x n
    · exact (z0 i hi).symm
    · exact (z1 i hi c).symm
theorem rb_1 {x k : Int32} (h1 : 0 ≤ k.toInt) (h2 : k.toInt ≤ 31) : rb x k = 1 ↔ bt x k.toNatClampNeg = true := by
  rw [rb_bt h1 h2]
  cases bt x k.toNatClampNeg <;> simp
/-- a number of seven bits, as a number -/
def n7 (a : Nat) : Int32 := nI a
def pp (a : Nat) : Nat := a % 2 + a / 2 % 2 + a / 4 % 2 + a / 8 % 2 + a / 16 % 2 + a / 32 % 2 + a / 64 % 2
/-- of seven bits, n of them set -/
def h7 (n : Nat) (v : Int32) : Prop := 0 ≤ v.toInt ∧ v.toInt ≤ 127 ∧ pp v.toNatClampNeg = n
theorem h7_bt : ∀ a, a < 128 → ∀ x, x < 7 → bt (nI a) x = false → pp (nI a ||| ((1 : Int32) <<< (nI x &&& 31))).toNatClampNeg = pp a + 1 ∧ 0 ≤ (nI a ||| ((1 : Int32) <<< (nI x &&& 31))).toInt ∧ (nI a ||| ((1 : Int32) <<< (nI x &&& 31))).toInt ≤ 127 := by decide +kernel
theorem h7_all : ∀ a, a < 128 → pp a ≤ 7 ∧ (pp a = 7 → ∀ x, x < 7 → bt (nI a) x = true) := by decide +kernel
theorem o7_all : ∀ a, a < 128 → ∀ x, x < 7 → 0 ≤ (nI a ||| ((1 : Int32) <<< (nI x &&& 31))).toInt ∧ (nI a ||| ((1 : Int32) <<< (nI x &&& 31))).toInt ≤ 127 := by decide +kernel
theorem o7 {v x : Int32} (h1 : 0 ≤ v.toInt) (h2 : v.toInt ≤ 127) (h3 : 0 ≤ x.toInt) (h4 : x.toInt ≤ 6) : 0 ≤ (v ||| ((1 : Int32) <<< (x &&& 31))).toInt ∧ (v ||| ((1 : Int32) <<< (x &&& 31))).toInt ≤ 127 := by
  have e1 := tC_of h1
  have e2 := tC_of h3
  rw [nI_at h1, nI_at h3]
  exact o7_all _ (by omega) _ (by omega)
theorem h7_one {x : Int32} (h3 : 0 ≤ x.toInt) (h4 : x.toInt ≤ 6) : h7 1 ((1 : Int32) <<< (x &&& 31)) := by
  have e2 := tC_of h3
  rw [nI_at h3]
  have key : ∀ x, x < 7 → 0 ≤ ((1 : Int32) <<< (nI x &&& 31)).toInt ∧ ((1 : Int32) <<< (nI x &&& 31)).toInt ≤ 127 ∧ pp ((1 : Int32) <<< (nI x &&& 31)).toNatClampNeg = 1 := by decide +kernel
  exact key _ (by omega)
/-- one who isn't among 'had' yet, and is beside: one more then -/
theorem h7_next {n : Nat} {v b x near : Int32} (h : h7 n v) (hn : near = b &&& (v ^^^ (-1))) (h3 : 0 ≤ x.toInt) (h4 : x.toInt ≤ 6) (hr : rb near x = 1) : h7 (n + 1) (v ||| ((1 : Int32) <<< (x &&& 31))) := by
  obtain ⟨a1, a2, a3⟩ := h
  have e1 := tC_of a1
  have e2 := tC_of h3
  have hb := (rb_1 h3 (by omega)).mp hr
  rw [hn, b_and, b_xor, b_m1 _ (by omega)] at hb
  have hv : bt v x.toNatClampNeg = false := by
    cases hq : bt v x.toNatClampNeg
    · rfl
    · rw [hq] at hb
      simp at hb
  rw [nI_at a1] at hv
  have key := h7_bt _ (show v.toNatClampNeg < 128 by omega) _ (show x.toNatClampNeg < 7 by omega) hv
  rw [← nI_at a1, ← nI_at h3] at key
  exact ⟨key.2.1, key.2.2, by rw [key.1, a3]⟩
theorem h7_full {n : Nat} {v b x near : Int32} (h : h7 n v) (hn : near = b &&& (v ^^^ (-1))) (h3 : 0 ≤ x.toInt) (h4 : x.toInt ≤ 6) (hr : rb near x = 1) : n < 7 := by
  obtain ⟨a1, a2, a3⟩ := h
  have e1 := tC_of a1
  have e2 := tC_of h3
  have key := h7_all _ (show v.toNatClampNeg < 128 by omega)
  rw [a3] at key
  rcases Nat.lt_or_ge n 7 with c | c
  · exact c
  · have h9 := key.2 (by omega) x.toNatClampNeg (by omega)
    rw [← nI_at a1] at h9
    have hb := (rb_1 h3 (by omega)).mp hr
    rw [hn, b_and, b_xor, b_m1 _ (by omega), h9] at hb
    simp at hb
/-- set bits from place x on -/
def ab (a x : Nat) : Nat := pp (a / 2 ^ x)
theorem ab_s : ∀ a, a < 128 → ∀ x, x < 7 → ab a x = (if bt (nI a) x then 1 else 0) + ab a (x + 1) := by decide +kernel
theorem ab_7 : ∀ a, a < 128 → ab a 7 = 0 := by decide +kernel
theorem ab_0 (a : Nat) : ab a 0 = pp a := by unfold ab; simp
theorem pp_0 : ∀ a, a < 128 → pp a = 0 → a = 0 := by decide +kernel
theorem so_pp : ∀ a, a < 128 → ((((((((((((0 + rb (nI a) 0) + rb (nI a) 1) + rb (nI a) 2) + rb (nI a) 3) + rb (nI a) 4) + rb (nI a) 5) + rb (nI a) 6) + rb (nI a) 7) + rb (nI a) 8) + rb (nI a) 9) + rb (nI a) 10) + rb (nI a) 11) = nI (pp a) := by decide +kernel
/-- the reference's sizeOf() -/
def so (v : Int32) : Int32 := (((((((((((0 + rb v 0) + rb v 1) + rb v 2) + rb v 3) + rb v 4) + rb v 5) + rb v 6) + rb v 7) + rb v 8) + rb v 9) + rb v 10) + rb v 11
theorem so_7 {v : Int32} (h1 : 0 ≤ v.toInt) (h2 : v.toInt ≤ 127) : (so v).toInt = pp v.toNatClampNeg ∧ pp v.toNatClampNeg ≤ 7 ∧ (v.toInt = 0 ∨ 1 ≤ pp v.toNatClampNeg) := by
  have e1 := tC_of h1
  have hl : v.toNatClampNeg < 128 := by omega
  have h := so_pp _ hl
  have h3 := (h7_all _ hl).1
  rw [← nI_at h1] at h
  refine ⟨?_, h3, ?_⟩
  · show (((((((((((((0 + rb v 0) + rb v 1) + rb v 2) + rb v 3) + rb v 4) + rb v 5) + rb v 6) + rb v 7) + rb v 8) + rb v 9) + rb v 10) + rb v 11)).toInt = _
    rw [h, nI_toInt (by omega)]
  · rcases Nat.eq_zero_or_pos (pp v.toNatClampNeg) with c | c
    · left
      have := pp_0 _ hl c
      omega
    · right; exact c
theorem ab_step {v x : Int32} (h1 : 0 ≤ v.toInt) (h2 : v.toInt ≤ 127) (h3 : 0 ≤ x.toInt) (h4 : x.toInt ≤ 6) : (rb v x = 1 → ab v.toNatClampNeg x.toNatClampNeg = 1 + ab v.toNatClampNeg (x.toNatClampNeg + 1)) ∧ (¬ rb v x = 1 → ab v.toNatClampNeg x.toNatClampNeg = ab v.toNatClampNeg (x.toNatClampNeg + 1)) := by
  have e1 := tC_of h1
  have e2 := tC_of h3
  have h := ab_s _ (show v.toNatClampNeg < 128 by omega) _ (show x.toNatClampNeg < 7 by omega)
  rw [← nI_at h1] at h
  rw [rb_1 h3 (by omega)]
  constructor
  · intro c; rw [h, if_pos c]
  · intro c; rw [h, if_neg c]; omega
theorem lc_le {a b : Int64} {t : Int32} (h : t = lg_cmp a b) (ht : t.toInt ≤ 0) : a.toInt ≤ b.toInt := by
  rcases Int.lt_or_le b.toInt a.toInt with c | c
  · have h1 : b < a := Int64.lt_iff_toInt_lt.mpr c
    exfalso
    rw [h] at ht
    simp only [lg_cmp] at ht
    rw [if_pos h1] at ht
    exact absurd ht (by decide)
  · exact c
theorem lc_add {x y z : Int32} {t : Int32} {la lb lc ld : Int64} (h : t = lg_cmp lc ld) (h1 : la = x.toInt64) (h2 : lb = y.toInt64) (h3 : lc = la + lb) (h4 : ld = z.toInt64) : t.toInt ≤ 0 → x.toInt + y.toInt ≤ z.toInt := fun ht => by
  have h9 := lc_le h ht
  rw [h3, h4, h1, h2, Int64.toInt_add, Int32.toInt_toInt64, Int32.toInt_toInt64, Int32.toInt_toInt64] at h9
  have e1 := tI_lo x; have e2 := tI_hi x; have e3 := tI_lo y; have e4 := tI_hi y
  rw [Int.bmod_eq_of_le (by omega) (by omega)] at h9
  exact h9
theorem rem_lt {x y : Int32} (h : ¬ y.toInt = 0) : (x % y).toInt.natAbs < y.toInt.natAbs := by
  rw [Int32.toInt_mod, Int.natAbs_tmod]
  exact Nat.mod_lt _ (by omega)
theorem lrem_rng {a b : Int64} {c : Int} (h1 : 0 ≤ a.toInt) (hb : b.toInt = c) (hc : 0 < c) : 0 ≤ (a % b).toInt ∧ (a % b).toInt < c := by
  rw [Int64.toInt_mod, hb]
  exact ⟨Int.tmod_nonneg _ h1, Int.tmod_lt_of_pos _ hc⟩
theorem l2i_of {a : Int64} {t : Int32} (h : t = a.toInt32) (h1 : 0 ≤ a.toInt) (h2 : a.toInt < 2147483648) : t.toInt = a.toInt := by
  rw [h, Int64.toInt_toInt32]
  exact Int.bmod_eq_of_le (by omega) (by omega)
theorem lot_rng {n l1 l2 : Int64} (h : 0 ≤ n.toInt ∧ n.toInt ≤ 2147483646) (h1 : l1 = 48271 * n) (h2 : l2 = l1 % 2147483647) : 0 ≤ l2.toInt ∧ l2.toInt ≤ 2147483646 := by
  have e : l1.toInt = 48271 * n.toInt := by
    rw [h1, Int64.toInt_mul]
    exact Int.bmod_eq_of_le (by show _ ≤ (48271 : Int) * n.toInt; omega) (by show (48271 : Int) * n.toInt < _; omega)
  have h9 := lrem_rng (a := l1) (b := 2147483647) (c := 2147483647) (by omega) rfl (by decide)
  rw [h2]
  omega
theorem mw_5_189 : (Cond.code yX12_in cX12_in 3 (some .boolean) : Cond) ∈ lw_good := lg_at 5 189 rfl rfl
theorem mw_5_187 : (Cond.methodLink RX12 77 yX12_in : Cond) ∈ lw_good := lg_at 5 187 rfl rfl
theorem mw_5_188 : (Cond.static yX12_in : Cond) ∈ lw_good := lg_at 5 188 rfl rfl
theorem mw_1_13 : (Cond.initialized RX12 : Cond) ∈ lw_good := lg_at 1 13 rfl rfl
theorem mw_5_41 : (Cond.fieldLink RX12 70 "DearLettersModel" "finding" "I" : Cond) ∈ lw_good := lg_at 5 41 rfl rfl
theorem mw_5_42 : (Cond.fieldLink RX12 7 "DearLettersModel" "findings" "[I" : Cond) ∈ lw_good := lg_at 5 42 rfl rfl
theorem mw_5_43 : (Cond.fieldLink RX12 74 "DearLettersModel" "asked" "I" : Cond) ∈ lw_good := lg_at 5 43 rfl rfl
theorem mw_5_186 : (Cond.code yX12_isRow cX12_isRow 1 (some .boolean) : Cond) ∈ lw_good := lg_at 5 186 rfl rfl
theorem mw_5_184 : (Cond.methodLink RX12 81 yX12_isRow : Cond) ∈ lw_good := lg_at 5 184 rfl rfl
theorem mw_5_185 : (Cond.static yX12_isRow : Cond) ∈ lw_good := lg_at 5 185 rfl rfl
theorem mw_5_44 : (Cond.fieldLink RX12 13 "DearLettersModel" "sizes" "[I" : Cond) ∈ lw_good := lg_at 5 44 rfl rfl
theorem mw_5_193 : (Cond.code yX12_meet cX12_meet 2 (some .int) : Cond) ∈ lw_good := lg_at 5 193 rfl rfl
theorem mw_5_190 : (Cond.methodLink RX12 85 yX12_meet : Cond) ∈ lw_good := lg_at 5 190 rfl rfl
theorem mw_5_192 : (Cond.instanceMethod yX12_meet : Cond) ∈ lw_good := lg_at 5 192 rfl rfl
theorem mw_0_26 : (Cond.selects RX12 yX12_meet yX12_meet : Cond) ∈ lw_good := lg_at 0 26 rfl rfl
theorem mw_5_237 : (Cond.code yX12_isText cX12_isText 1 (some .boolean) : Cond) ∈ lw_good := lg_at 5 237 rfl rfl
theorem mw_5_235 : (Cond.methodLink RX12 89 yX12_isText : Cond) ∈ lw_good := lg_at 5 235 rfl rfl
theorem mw_5_236 : (Cond.static yX12_isText : Cond) ∈ lw_good := lg_at 5 236 rfl rfl
theorem mw_5_47 : (Cond.fieldLink RX12 22 "DearLettersModel" "lengths" "[I" : Cond) ∈ lw_good := lg_at 5 47 rfl rfl
theorem mw_5_45 : (Cond.fieldLink RX12 16 "DearLettersModel" "rows" "[I" : Cond) ∈ lw_good := lg_at 5 45 rfl rfl
theorem hM_0_0 (cs : Nat → ClassId) (ad : Nat → Nat) (g : Nat → Int32) (v : Int32) : EM cs ad 0 (upd g 0 v) = .inr (12, [.int v, .ref (ad 1), .int (g 2), .ref (ad 2), .ref (ad 3), .ref (ad 4), .ref (ad 5), .ref (ad 6), .int (g 8), .ref (ad 7), .ref (ad 8), .int (g 11), .ref (ad 9), .int (g 13), .int (g 14), .int (g 15), .ref (ad 10), .int (g 17), .int (g 18), .int (g 19), .int (g 20), .ref (ad 11), .ref (ad 12), .ref (ad 13), .ref (ad 14), .ref (ad 15), .ref (ad 16), .ref (ad 17), .ref (ad 18), .int (g 29), .int (g 30), .int (g 31), .int (g 32), .int (g 33), .int (g 34), .int (g 35), .int (g 36), .int (g 37), .int (g 38), .int (g 39), .ref (ad 19), .ref (ad 20), .int (g 42), .int (g 43), .int (g 44), .long (jn (g 45) (g 46))]) := by
  rfl
theorem tM_0_0 {mu : Nat → Nat → Int32} (ok : okR loM hiM mu) {nu : Nat → Nat → Int32} {v : Int32} (hn : va_up mu 0 (upd (mu 0) 0 v) = nu) : okR loM hiM nu := by
  subst hn
  exact okR_up ok 0 0 v (tI_lo v) (tI_hi v)
theorem tM_1_s {mu : Nat → Nat → Int32} (ok : okR loM hiM mu) {nu : Nat → Nat → Int32} {v : Int32} (f : Nat) (hn : va_up mu 1 (upd (mu 1) f v) = nu) : okR loM hiM nu := by
  subst hn
  exact okR_up ok 1 f v (tI_lo v) (tI_hi v)
theorem hM_0_2 (cs : Nat → ClassId) (ad : Nat → Nat) (g : Nat → Int32) (v : Int32) : EM cs ad 0 (upd g 2 v) = .inr (12, [.int (g 0), .ref (ad 1), .int v, .ref (ad 2), .ref (ad 3), .ref (ad 4), .ref (ad 5), .ref (ad 6), .int (g 8), .ref (ad 7), .ref (ad 8), .int (g 11), .ref (ad 9), .int (g 13), .int (g 14), .int (g 15), .ref (ad 10), .int (g 17), .int (g 18), .int (g 19), .int (g 20), .ref (ad 11), .ref (ad 12), .ref (ad 13), .ref (ad 14), .ref (ad 15), .ref (ad 16), .ref (ad 17), .ref (ad 18), .int (g 29), .int (g 30), .int (g 31), .int (g 32), .int (g 33), .int (g 34), .int (g 35), .int (g 36), .int (g 37), .int (g 38), .int (g 39), .ref (ad 19), .ref (ad 20), .int (g 42), .int (g 43), .int (g 44), .long (jn (g 45) (g 46))]) := by
  rfl
theorem tM_0_2 {mu : Nat → Nat → Int32} (ok : okR loM hiM mu) {nu : Nat → Nat → Int32} {v : Int32} (hn : va_up mu 0 (upd (mu 0) 2 v) = nu) : okR loM hiM nu := by
  subst hn
  exact okR_up ok 0 2 v (tI_lo v) (tI_hi v)
theorem rM_2_s {mu : Nat → Nat → Int32} (ok : okR loM hiM mu) (f : Nat) : -9 ≤ (mu 2 f).toInt ∧ (mu 2 f).toInt ≤ 40 := ok 2 f
theorem rM_5_s {mu : Nat → Nat → Int32} (ok : okR loM hiM mu) (f : Nat) : -9 ≤ (mu 5 f).toInt ∧ (mu 5 f).toInt ≤ 80 := ok 5 f
theorem tM_3_s {mu : Nat → Nat → Int32} (ok : okR loM hiM mu) {nu : Nat → Nat → Int32} {v : Int32} (f : Nat) (hn : va_up mu 3 (upd (mu 3) f v) = nu) : okR loM hiM nu := by
  subst hn
  exact okR_up ok 3 f v (tI_lo v) (tI_hi v)
theorem lb_X12_in_0 : dl_ck (cX12_in.data.toList.drop 0) [26, 27, 161, 0, 12, 26, 28, 163, 0, 7, 4, 167, 0, 4, 3, 172] = true := by decide +kernel
theorem dX12_in_0 : decode cX12_in 0 = .ok (.iload_n 0, 1) := dx_26 (dl_at 0 0 lb_X12_in_0 rfl)
theorem dX12_in_1 : decode cX12_in 1 = .ok (.iload_n 1, 1) := dx_27 (dl_at 0 1 lb_X12_in_0 rfl)
theorem dX12_in_2 : decode cX12_in 2 = .ok (.if_icmp .lt 12, 3) := dx_161 (a := 0) (b := 12) (dl_at 0 2 lb_X12_in_0 rfl) (dl_at 0 3 lb_X12_in_0 rfl) (dl_at 0 4 lb_X12_in_0 rfl) sg16_12
theorem dX12_in_14 : decode cX12_in 14 = .ok (.iconst 0, 1) := dx_3 (dl_at 0 14 lb_X12_in_0 rfl)
theorem dX12_in_15 : decode cX12_in 15 = .ok (.ireturn, 1) := dx_172 (dl_at 0 15 lb_X12_in_0 rfl)
theorem dX12_in_5 : decode cX12_in 5 = .ok (.iload_n 0, 1) := dx_26 (dl_at 0 5 lb_X12_in_0 rfl)
theorem dX12_in_6 : decode cX12_in 6 = .ok (.iload_n 2, 1) := dx_28 (dl_at 0 6 lb_X12_in_0 rfl)
theorem dX12_in_7 : decode cX12_in 7 = .ok (.if_icmp .gt 7, 3) := dx_163 (a := 0) (b := 7) (dl_at 0 7 lb_X12_in_0 rfl) (dl_at 0 8 lb_X12_in_0 rfl) (dl_at 0 9 lb_X12_in_0 rfl) sg16_7
theorem dX12_in_10 : decode cX12_in 10 = .ok (.iconst 1, 1) := dx_4 (dl_at 0 10 lb_X12_in_0 rfl)
theorem dX12_in_11 : decode cX12_in 11 = .ok (.goto 4, 3) := dx_167 (a := 0) (b := 4) (dl_at 0 11 lb_X12_in_0 rfl) (dl_at 0 12 lb_X12_in_0 rfl) (dl_at 0 13 lb_X12_in_0 rfl) sg16_4
theorem lb_X12_has_0 : dl_ck (cX12_has.data.toList.drop 0) [26, 27, 122, 4, 126, 4, 160, 0, 7, 4, 167, 0, 4, 3, 172] = true := by decide +kernel
theorem dX12_has_0 : decode cX12_has 0 = .ok (.iload_n 0, 1) := dx_26 (dl_at 0 0 lb_X12_has_0 rfl)
theorem dX12_has_1 : decode cX12_has 1 = .ok (.iload_n 1, 1) := dx_27 (dl_at 0 1 lb_X12_has_0 rfl)
theorem dX12_has_2 : decode cX12_has 2 = .ok (.ishr, 1) := dx_122 (dl_at 0 2 lb_X12_has_0 rfl)
theorem dX12_has_3 : decode cX12_has 3 = .ok (.iconst 1, 1) := dx_4 (dl_at 0 3 lb_X12_has_0 rfl)
theorem dX12_has_4 : decode cX12_has 4 = .ok (.iand, 1) := dx_126 (dl_at 0 4 lb_X12_has_0 rfl)
theorem dX12_has_5 : decode cX12_has 5 = .ok (.iconst 1, 1) := dx_4 (dl_at 0 5 lb_X12_has_0 rfl)
theorem dX12_has_6 : decode cX12_has 6 = .ok (.if_icmp .ne 7, 3) := dx_160 (a := 0) (b := 7) (dl_at 0 6 lb_X12_has_0 rfl) (dl_at 0 7 lb_X12_has_0 rfl) (dl_at 0 8 lb_X12_has_0 rfl) sg16_7
theorem dX12_has_13 : decode cX12_has 13 = .ok (.iconst 0, 1) := dx_3 (dl_at 0 13 lb_X12_has_0 rfl)
theorem dX12_has_14 : decode cX12_has 14 = .ok (.ireturn, 1) := dx_172 (dl_at 0 14 lb_X12_has_0 rfl)
theorem dX12_has_9 : decode cX12_has 9 = .ok (.iconst 1, 1) := dx_4 (dl_at 0 9 lb_X12_has_0 rfl)
theorem dX12_has_10 : decode cX12_has 10 = .ok (.goto 4, 3) := dx_167 (a := 0) (b := 4) (dl_at 0 10 lb_X12_has_0 rfl) (dl_at 0 11 lb_X12_has_0 rfl) (dl_at 0 12 lb_X12_has_0 rfl) sg16_4
theorem lb_X12_sizeOf_0 : dl_ck (cX12_sizeOf.data.toList.drop 0) [3, 60, 3, 61, 28, 16, 12, 162, 0, 17, 27, 26, 28, 122, 4, 126, 96, 60, 132, 2, 1, 167, 255, 239, 27, 172] = true := by decide +kernel
theorem dX12_sizeOf_0 : decode cX12_sizeOf 0 = .ok (.iconst 0, 1) := dx_3 (dl_at 0 0 lb_X12_sizeOf_0 rfl)
theorem dX12_sizeOf_1 : decode cX12_sizeOf 1 = .ok (.istore_n 1, 1) := dx_60 (dl_at 0 1 lb_X12_sizeOf_0 rfl)
theorem dX12_sizeOf_2 : decode cX12_sizeOf 2 = .ok (.iconst 0, 1) := dx_3 (dl_at 0 2 lb_X12_sizeOf_0 rfl)
theorem dX12_sizeOf_3 : decode cX12_sizeOf 3 = .ok (.istore_n 2, 1) := dx_61 (dl_at 0 3 lb_X12_sizeOf_0 rfl)
theorem dX12_sizeOf_4 : decode cX12_sizeOf 4 = .ok (.iload_n 2, 1) := dx_28 (dl_at 0 4 lb_X12_sizeOf_0 rfl)
theorem dX12_sizeOf_5 : decode cX12_sizeOf 5 = .ok (.bipush 12, 2) := dx_16 (dl_at 0 5 lb_X12_sizeOf_0 rfl) (dl_at 0 6 lb_X12_sizeOf_0 rfl) sg8_12
theorem dX12_sizeOf_7 : decode cX12_sizeOf 7 = .ok (.if_icmp .ge 17, 3) := dx_162 (a := 0) (b := 17) (dl_at 0 7 lb_X12_sizeOf_0 rfl) (dl_at 0 8 lb_X12_sizeOf_0 rfl) (dl_at 0 9 lb_X12_sizeOf_0 rfl) sg16_17
theorem dX12_sizeOf_10 : decode cX12_sizeOf 10 = .ok (.iload_n 1, 1) := dx_27 (dl_at 0 10 lb_X12_sizeOf_0 rfl)
theorem dX12_sizeOf_11 : decode cX12_sizeOf 11 = .ok (.iload_n 0, 1) := dx_26 (dl_at 0 11 lb_X12_sizeOf_0 rfl)
theorem dX12_sizeOf_12 : decode cX12_sizeOf 12 = .ok (.iload_n 2, 1) := dx_28 (dl_at 0 12 lb_X12_sizeOf_0 rfl)
theorem dX12_sizeOf_13 : decode cX12_sizeOf 13 = .ok (.ishr, 1) := dx_122 (dl_at 0 13 lb_X12_sizeOf_0 rfl)
theorem dX12_sizeOf_14 : decode cX12_sizeOf 14 = .ok (.iconst 1, 1) := dx_4 (dl_at 0 14 lb_X12_sizeOf_0 rfl)
theorem dX12_sizeOf_15 : decode cX12_sizeOf 15 = .ok (.iand, 1) := dx_126 (dl_at 0 15 lb_X12_sizeOf_0 rfl)
theorem dX12_sizeOf_16 : decode cX12_sizeOf 16 = .ok (.iadd, 1) := dx_96 (dl_at 0 16 lb_X12_sizeOf_0 rfl)
theorem dX12_sizeOf_17 : decode cX12_sizeOf 17 = .ok (.istore_n 1, 1) := dx_60 (dl_at 0 17 lb_X12_sizeOf_0 rfl)
theorem dX12_sizeOf_18 : decode cX12_sizeOf 18 = .ok (.iinc 2 1, 3) := dx_132 (dl_at 0 18 lb_X12_sizeOf_0 rfl) (dl_at 0 19 lb_X12_sizeOf_0 rfl) (dl_at 0 20 lb_X12_sizeOf_0 rfl) sg8_1
theorem dX12_sizeOf_21 : decode cX12_sizeOf 21 = .ok (.goto (-17), 3) := dx_167 (a := 255) (b := 239) (dl_at 0 21 lb_X12_sizeOf_0 rfl) (dl_at 0 22 lb_X12_sizeOf_0 rfl) (dl_at 0 23 lb_X12_sizeOf_0 rfl) sg16_65519
theorem dX12_sizeOf_24 : decode cX12_sizeOf 24 = .ok (.iload_n 1, 1) := dx_27 (dl_at 0 24 lb_X12_sizeOf_0 rfl)
theorem dX12_sizeOf_25 : decode cX12_sizeOf 25 = .ok (.ireturn, 1) := dx_172 (dl_at 0 25 lb_X12_sizeOf_0 rfl)
theorem lb_X12_isRow_0 : dl_ck (cX12_isRow.data.toList.drop 0) [26, 3, 8, 184, 0, 77, 172] = true := by decide +kernel
theorem dX12_isRow_0 : decode cX12_isRow 0 = .ok (.iload_n 0, 1) := dx_26 (dl_at 0 0 lb_X12_isRow_0 rfl)
theorem dX12_isRow_1 : decode cX12_isRow 1 = .ok (.iconst 0, 1) := dx_3 (dl_at 0 1 lb_X12_isRow_0 rfl)
theorem dX12_isRow_2 : decode cX12_isRow 2 = .ok (.iconst 5, 1) := dx_8 (dl_at 0 2 lb_X12_isRow_0 rfl)
theorem dX12_isRow_3 : decode cX12_isRow 3 = .ok (.invokestatic 77, 3) := dx_184 (a := 0) (b := 77) (dl_at 0 3 lb_X12_isRow_0 rfl) (dl_at 0 4 lb_X12_isRow_0 rfl) (dl_at 0 5 lb_X12_isRow_0 rfl) rfl
theorem dX12_isRow_6 : decode cX12_isRow 6 = .ok (.ireturn, 1) := dx_172 (dl_at 0 6 lb_X12_isRow_0 rfl)
theorem lb_X12_isText_0 : dl_ck (cX12_isText.data.toList.drop 0) [26, 3, 6, 184, 0, 77, 172] = true := by decide +kernel
theorem dX12_isText_0 : decode cX12_isText 0 = .ok (.iload_n 0, 1) := dx_26 (dl_at 0 0 lb_X12_isText_0 rfl)
theorem dX12_isText_1 : decode cX12_isText 1 = .ok (.iconst 0, 1) := dx_3 (dl_at 0 1 lb_X12_isText_0 rfl)
theorem dX12_isText_2 : decode cX12_isText 2 = .ok (.iconst 3, 1) := dx_6 (dl_at 0 2 lb_X12_isText_0 rfl)
theorem dX12_isText_3 : decode cX12_isText 3 = .ok (.invokestatic 77, 3) := dx_184 (a := 0) (b := 77) (dl_at 0 3 lb_X12_isText_0 rfl) (dl_at 0 4 lb_X12_isText_0 rfl) (dl_at 0 5 lb_X12_isText_0 rfl) rfl
theorem dX12_isText_6 : decode cX12_isText 6 = .ok (.ireturn, 1) := dx_172 (dl_at 0 6 lb_X12_isText_0 rfl)
theorem lb_X12_meet_0 : dl_ck (cX12_meet.data.toList.drop 0) [42, 27, 181, 0, 70, 42, 180, 0, 7, 27, 92, 46, 4, 96, 79, 16, 253, 172] = true := by decide +kernel
theorem dX12_meet_0 : decode cX12_meet 0 = .ok (.aload_n 0, 1) := dx_42 (dl_at 0 0 lb_X12_meet_0 rfl)
theorem dX12_meet_1 : decode cX12_meet 1 = .ok (.iload_n 1, 1) := dx_27 (dl_at 0 1 lb_X12_meet_0 rfl)
theorem dX12_meet_2 : decode cX12_meet 2 = .ok (.putfield 70, 3) := dx_181 (a := 0) (b := 70) (dl_at 0 2 lb_X12_meet_0 rfl) (dl_at 0 3 lb_X12_meet_0 rfl) (dl_at 0 4 lb_X12_meet_0 rfl) rfl
theorem dX12_meet_5 : decode cX12_meet 5 = .ok (.aload_n 0, 1) := dx_42 (dl_at 0 5 lb_X12_meet_0 rfl)
theorem dX12_meet_6 : decode cX12_meet 6 = .ok (.getfield 7, 3) := dx_180 (a := 0) (b := 7) (dl_at 0 6 lb_X12_meet_0 rfl) (dl_at 0 7 lb_X12_meet_0 rfl) (dl_at 0 8 lb_X12_meet_0 rfl) rfl
theorem dX12_meet_9 : decode cX12_meet 9 = .ok (.iload_n 1, 1) := dx_27 (dl_at 0 9 lb_X12_meet_0 rfl)
theorem dX12_meet_10 : decode cX12_meet 10 = .ok (.dup2, 1) := dx_92 (dl_at 0 10 lb_X12_meet_0 rfl)
theorem dX12_meet_11 : decode cX12_meet 11 = .ok (.iaload, 1) := dx_46 (dl_at 0 11 lb_X12_meet_0 rfl)
theorem dX12_meet_12 : decode cX12_meet 12 = .ok (.iconst 1, 1) := dx_4 (dl_at 0 12 lb_X12_meet_0 rfl)
theorem dX12_meet_13 : decode cX12_meet 13 = .ok (.iadd, 1) := dx_96 (dl_at 0 13 lb_X12_meet_0 rfl)
theorem dX12_meet_14 : decode cX12_meet 14 = .ok (.iastore, 1) := dx_79 (dl_at 0 14 lb_X12_meet_0 rfl)
theorem dX12_meet_15 : decode cX12_meet 15 = .ok (.bipush (-3), 2) := dx_16 (dl_at 0 15 lb_X12_meet_0 rfl) (dl_at 0 16 lb_X12_meet_0 rfl) sg8_253
theorem dX12_meet_17 : decode cX12_meet 17 = .ok (.ireturn, 1) := dx_172 (dl_at 0 17 lb_X12_meet_0 rfl)
theorem lb_X12_ask_0 : dl_ck (cX12_ask.data.toList.drop 0) [42, 27, 181, 0, 74, 28, 172] = true := by decide +kernel
theorem dX12_ask_0 : decode cX12_ask 0 = .ok (.aload_n 0, 1) := dx_42 (dl_at 0 0 lb_X12_ask_0 rfl)
theorem dX12_ask_1 : decode cX12_ask 1 = .ok (.iload_n 1, 1) := dx_27 (dl_at 0 1 lb_X12_ask_0 rfl)
theorem dX12_ask_2 : decode cX12_ask 2 = .ok (.putfield 74, 3) := dx_181 (a := 0) (b := 74) (dl_at 0 2 lb_X12_ask_0 rfl) (dl_at 0 3 lb_X12_ask_0 rfl) (dl_at 0 4 lb_X12_ask_0 rfl) rfl
theorem dX12_ask_5 : decode cX12_ask 5 = .ok (.iload_n 2, 1) := dx_28 (dl_at 0 5 lb_X12_ask_0 rfl)
theorem dX12_ask_6 : decode cX12_ask 6 = .ok (.ireturn, 1) := dx_172 (dl_at 0 6 lb_X12_ask_0 rfl)
theorem lb_X12_askedRow_0 : dl_ck (cX12_askedRow.data.toList.drop 0) [27, 184, 0, 81, 154, 0, 7, 2, 167, 0, 21, 42, 180, 0, 13, 27, 46, 156, 0, 11, 42, 4, 182, 0, 85, 167, 0, 4, 3, 172] = true := by decide +kernel
theorem dX12_askedRow_0 : decode cX12_askedRow 0 = .ok (.iload_n 1, 1) := dx_27 (dl_at 0 0 lb_X12_askedRow_0 rfl)
theorem dX12_askedRow_1 : decode cX12_askedRow 1 = .ok (.invokestatic 81, 3) := dx_184 (a := 0) (b := 81) (dl_at 0 1 lb_X12_askedRow_0 rfl) (dl_at 0 2 lb_X12_askedRow_0 rfl) (dl_at 0 3 lb_X12_askedRow_0 rfl) rfl
theorem dX12_askedRow_4 : decode cX12_askedRow 4 = .ok (.ifCond .ne 7, 3) := dx_154 (a := 0) (b := 7) (dl_at 0 4 lb_X12_askedRow_0 rfl) (dl_at 0 5 lb_X12_askedRow_0 rfl) (dl_at 0 6 lb_X12_askedRow_0 rfl) sg16_7
theorem dX12_askedRow_11 : decode cX12_askedRow 11 = .ok (.aload_n 0, 1) := dx_42 (dl_at 0 11 lb_X12_askedRow_0 rfl)
theorem dX12_askedRow_12 : decode cX12_askedRow 12 = .ok (.getfield 13, 3) := dx_180 (a := 0) (b := 13) (dl_at 0 12 lb_X12_askedRow_0 rfl) (dl_at 0 13 lb_X12_askedRow_0 rfl) (dl_at 0 14 lb_X12_askedRow_0 rfl) rfl
theorem dX12_askedRow_15 : decode cX12_askedRow 15 = .ok (.iload_n 1, 1) := dx_27 (dl_at 0 15 lb_X12_askedRow_0 rfl)
theorem dX12_askedRow_16 : decode cX12_askedRow 16 = .ok (.iaload, 1) := dx_46 (dl_at 0 16 lb_X12_askedRow_0 rfl)
theorem dX12_askedRow_17 : decode cX12_askedRow 17 = .ok (.ifCond .ge 11, 3) := dx_156 (a := 0) (b := 11) (dl_at 0 17 lb_X12_askedRow_0 rfl) (dl_at 0 18 lb_X12_askedRow_0 rfl) (dl_at 0 19 lb_X12_askedRow_0 rfl) sg16_11
theorem dX12_askedRow_28 : decode cX12_askedRow 28 = .ok (.iconst 0, 1) := dx_3 (dl_at 0 28 lb_X12_askedRow_0 rfl)
theorem dX12_askedRow_29 : decode cX12_askedRow 29 = .ok (.ireturn, 1) := dx_172 (dl_at 0 29 lb_X12_askedRow_0 rfl)
theorem dX12_askedRow_20 : decode cX12_askedRow 20 = .ok (.aload_n 0, 1) := dx_42 (dl_at 0 20 lb_X12_askedRow_0 rfl)
theorem dX12_askedRow_21 : decode cX12_askedRow 21 = .ok (.iconst 1, 1) := dx_4 (dl_at 0 21 lb_X12_askedRow_0 rfl)
theorem dX12_askedRow_22 : decode cX12_askedRow 22 = .ok (.invokevirtual 85, 3) := dx_182 (a := 0) (b := 85) (dl_at 0 22 lb_X12_askedRow_0 rfl) (dl_at 0 23 lb_X12_askedRow_0 rfl) (dl_at 0 24 lb_X12_askedRow_0 rfl) rfl
theorem dX12_askedRow_25 : decode cX12_askedRow 25 = .ok (.goto 4, 3) := dx_167 (a := 0) (b := 4) (dl_at 0 25 lb_X12_askedRow_0 rfl) (dl_at 0 26 lb_X12_askedRow_0 rfl) (dl_at 0 27 lb_X12_askedRow_0 rfl) sg16_4
theorem dX12_askedRow_7 : decode cX12_askedRow 7 = .ok (.iconst (-1), 1) := dx_2 (dl_at 0 7 lb_X12_askedRow_0 rfl)
theorem dX12_askedRow_8 : decode cX12_askedRow 8 = .ok (.goto 21, 3) := dx_167 (a := 0) (b := 21) (dl_at 0 8 lb_X12_askedRow_0 rfl) (dl_at 0 9 lb_X12_askedRow_0 rfl) (dl_at 0 10 lb_X12_askedRow_0 rfl) sg16_21
theorem lb_X12_askedText_0 : dl_ck (cX12_askedText.data.toList.drop 0) [27, 184, 0, 89, 154, 0, 7, 2, 167, 0, 21, 42, 180, 0, 22, 27, 46, 156, 0, 11, 42, 4, 182, 0, 85, 167, 0, 4, 3, 172] = true := by decide +kernel
theorem dX12_askedText_0 : decode cX12_askedText 0 = .ok (.iload_n 1, 1) := dx_27 (dl_at 0 0 lb_X12_askedText_0 rfl)
theorem dX12_askedText_1 : decode cX12_askedText 1 = .ok (.invokestatic 89, 3) := dx_184 (a := 0) (b := 89) (dl_at 0 1 lb_X12_askedText_0 rfl) (dl_at 0 2 lb_X12_askedText_0 rfl) (dl_at 0 3 lb_X12_askedText_0 rfl) rfl
theorem dX12_askedText_4 : decode cX12_askedText 4 = .ok (.ifCond .ne 7, 3) := dx_154 (a := 0) (b := 7) (dl_at 0 4 lb_X12_askedText_0 rfl) (dl_at 0 5 lb_X12_askedText_0 rfl) (dl_at 0 6 lb_X12_askedText_0 rfl) sg16_7
theorem dX12_askedText_11 : decode cX12_askedText 11 = .ok (.aload_n 0, 1) := dx_42 (dl_at 0 11 lb_X12_askedText_0 rfl)
theorem dX12_askedText_12 : decode cX12_askedText 12 = .ok (.getfield 22, 3) := dx_180 (a := 0) (b := 22) (dl_at 0 12 lb_X12_askedText_0 rfl) (dl_at 0 13 lb_X12_askedText_0 rfl) (dl_at 0 14 lb_X12_askedText_0 rfl) rfl
theorem dX12_askedText_15 : decode cX12_askedText 15 = .ok (.iload_n 1, 1) := dx_27 (dl_at 0 15 lb_X12_askedText_0 rfl)
theorem dX12_askedText_16 : decode cX12_askedText 16 = .ok (.iaload, 1) := dx_46 (dl_at 0 16 lb_X12_askedText_0 rfl)
theorem dX12_askedText_17 : decode cX12_askedText 17 = .ok (.ifCond .ge 11, 3) := dx_156 (a := 0) (b := 11) (dl_at 0 17 lb_X12_askedText_0 rfl) (dl_at 0 18 lb_X12_askedText_0 rfl) (dl_at 0 19 lb_X12_askedText_0 rfl) sg16_11
theorem dX12_askedText_28 : decode cX12_askedText 28 = .ok (.iconst 0, 1) := dx_3 (dl_at 0 28 lb_X12_askedText_0 rfl)
theorem dX12_askedText_29 : decode cX12_askedText 29 = .ok (.ireturn, 1) := dx_172 (dl_at 0 29 lb_X12_askedText_0 rfl)
theorem dX12_askedText_20 : decode cX12_askedText 20 = .ok (.aload_n 0, 1) := dx_42 (dl_at 0 20 lb_X12_askedText_0 rfl)
theorem dX12_askedText_21 : decode cX12_askedText 21 = .ok (.iconst 1, 1) := dx_4 (dl_at 0 21 lb_X12_askedText_0 rfl)
theorem dX12_askedText_22 : decode cX12_askedText 22 = .ok (.invokevirtual 85, 3) := dx_182 (a := 0) (b := 85) (dl_at 0 22 lb_X12_askedText_0 rfl) (dl_at 0 23 lb_X12_askedText_0 rfl) (dl_at 0 24 lb_X12_askedText_0 rfl) rfl
theorem dX12_askedText_25 : decode cX12_askedText 25 = .ok (.goto 4, 3) := dx_167 (a := 0) (b := 4) (dl_at 0 25 lb_X12_askedText_0 rfl) (dl_at 0 26 lb_X12_askedText_0 rfl) (dl_at 0 27 lb_X12_askedText_0 rfl) sg16_4
theorem dX12_askedText_7 : decode cX12_askedText 7 = .ok (.iconst (-1), 1) := dx_2 (dl_at 0 7 lb_X12_askedText_0 rfl)
theorem dX12_askedText_8 : decode cX12_askedText 8 = .ok (.goto 21, 3) := dx_167 (a := 0) (b := 21) (dl_at 0 8 lb_X12_askedText_0 rfl) (dl_at 0 9 lb_X12_askedText_0 rfl) (dl_at 0 10 lb_X12_askedText_0 rfl) sg16_21
theorem lb_X12_rowAt_0 : dl_ck (cX12_rowAt.data.toList.drop 0) [42, 180, 0, 16, 16, 40, 27, 104, 28, 96, 46, 172] = true := by decide +kernel
theorem dX12_rowAt_0 : decode cX12_rowAt 0 = .ok (.aload_n 0, 1) := dx_42 (dl_at 0 0 lb_X12_rowAt_0 rfl)
theorem dX12_rowAt_1 : decode cX12_rowAt 1 = .ok (.getfield 16, 3) := dx_180 (a := 0) (b := 16) (dl_at 0 1 lb_X12_rowAt_0 rfl) (dl_at 0 2 lb_X12_rowAt_0 rfl) (dl_at 0 3 lb_X12_rowAt_0 rfl) rfl
theorem dX12_rowAt_4 : decode cX12_rowAt 4 = .ok (.bipush 40, 2) := dx_16 (dl_at 0 4 lb_X12_rowAt_0 rfl) (dl_at 0 5 lb_X12_rowAt_0 rfl) sg8_40
theorem dX12_rowAt_6 : decode cX12_rowAt 6 = .ok (.iload_n 1, 1) := dx_27 (dl_at 0 6 lb_X12_rowAt_0 rfl)
theorem dX12_rowAt_7 : decode cX12_rowAt 7 = .ok (.imul, 1) := dx_104 (dl_at 0 7 lb_X12_rowAt_0 rfl)
theorem dX12_rowAt_8 : decode cX12_rowAt 8 = .ok (.iload_n 2, 1) := dx_28 (dl_at 0 8 lb_X12_rowAt_0 rfl)
theorem dX12_rowAt_9 : decode cX12_rowAt 9 = .ok (.iadd, 1) := dx_96 (dl_at 0 9 lb_X12_rowAt_0 rfl)
theorem dX12_rowAt_10 : decode cX12_rowAt 10 = .ok (.iaload, 1) := dx_46 (dl_at 0 10 lb_X12_rowAt_0 rfl)
theorem dX12_rowAt_11 : decode cX12_rowAt 11 = .ok (.ireturn, 1) := dx_172 (dl_at 0 11 lb_X12_rowAt_0 rfl)
theorem lb_X12_setRow_0 : dl_ck (cX12_setRow.data.toList.drop 0) [42, 180, 0, 16, 16, 40, 27, 104, 28, 96, 29, 79, 177] = true := by decide +kernel
theorem dX12_setRow_0 : decode cX12_setRow 0 = .ok (.aload_n 0, 1) := dx_42 (dl_at 0 0 lb_X12_setRow_0 rfl)
theorem dX12_setRow_1 : decode cX12_setRow 1 = .ok (.getfield 16, 3) := dx_180 (a := 0) (b := 16) (dl_at 0 1 lb_X12_setRow_0 rfl) (dl_at 0 2 lb_X12_setRow_0 rfl) (dl_at 0 3 lb_X12_setRow_0 rfl) rfl
theorem dX12_setRow_4 : decode cX12_setRow 4 = .ok (.bipush 40, 2) := dx_16 (dl_at 0 4 lb_X12_setRow_0 rfl) (dl_at 0 5 lb_X12_setRow_0 rfl) sg8_40
theorem dX12_setRow_6 : decode cX12_setRow 6 = .ok (.iload_n 1, 1) := dx_27 (dl_at 0 6 lb_X12_setRow_0 rfl)
theorem dX12_setRow_7 : decode cX12_setRow 7 = .ok (.imul, 1) := dx_104 (dl_at 0 7 lb_X12_setRow_0 rfl)
theorem dX12_setRow_8 : decode cX12_setRow 8 = .ok (.iload_n 2, 1) := dx_28 (dl_at 0 8 lb_X12_setRow_0 rfl)
theorem dX12_setRow_9 : decode cX12_setRow 9 = .ok (.iadd, 1) := dx_96 (dl_at 0 9 lb_X12_setRow_0 rfl)
theorem dX12_setRow_10 : decode cX12_setRow 10 = .ok (.iload_n 3, 1) := dx_29 (dl_at 0 10 lb_X12_setRow_0 rfl)
theorem dX12_setRow_11 : decode cX12_setRow 11 = .ok (.iastore, 1) := dx_79 (dl_at 0 11 lb_X12_setRow_0 rfl)
theorem dX12_setRow_12 : decode cX12_setRow 12 = .ok (.return_, 1) := dx_177 (dl_at 0 12 lb_X12_setRow_0 rfl)
def F_sm_in (va : Int32) (vb : Int32) (vc : Int32) : Int32 :=
  if va < vb then (
    (0 : Int32)
  ) else (
    if va > vc then (
      (0 : Int32)
    ) else (
      (1 : Int32)
    )
  )
def F_sm_has (va : Int32) (vb : Int32) : Int32 :=
  LETV (va >>> (vb &&& 31) : Int32) fun t1 =>
  LETV (t1 &&& 1 : Int32) fun t2 =>
  if t2 = (1 : Int32) then (
    (1 : Int32)
  ) else (
    (0 : Int32)
  )
def F_sm_sizeOf (va : Int32) : Int32 :=
  LETV (va >>> (0 &&& 31) : Int32) fun t1 =>
  LETV (t1 &&& 1 : Int32) fun t2 =>
  LETV (0 + t2 : Int32) fun t3 =>
  LETV (va >>> (1 &&& 31) : Int32) fun t4 =>
  LETV (t4 &&& 1 : Int32) fun t5 =>
  LETV (t3 + t5 : Int32) fun t6 =>
  LETV (va >>> (2 &&& 31) : Int32) fun t7 =>
  LETV (t7 &&& 1 : Int32) fun t8 =>
  LETV (t6 + t8 : Int32) fun t9 =>
  LETV (va >>> (3 &&& 31) : Int32) fun t10 =>
  LETV (t10 &&& 1 : Int32) fun t11 =>
  LETV (t9 + t11 : Int32) fun t12 =>
  LETV (va >>> (4 &&& 31) : Int32) fun t13 =>
  LETV (t13 &&& 1 : Int32) fun t14 =>
  LETV (t12 + t14 : Int32) fun t15 =>
  LETV (va >>> (5 &&& 31) : Int32) fun t16 =>
  LETV (t16 &&& 1 : Int32) fun t17 =>
  LETV (t15 + t17 : Int32) fun t18 =>
  LETV (va >>> (6 &&& 31) : Int32) fun t19 =>
  LETV (t19 &&& 1 : Int32) fun t20 =>
  LETV (t18 + t20 : Int32) fun t21 =>
  LETV (va >>> (7 &&& 31) : Int32) fun t22 =>
  LETV (t22 &&& 1 : Int32) fun t23 =>
  LETV (t21 + t23 : Int32) fun t24 =>
  LETV (va >>> (8 &&& 31) : Int32) fun t25 =>
  LETV (t25 &&& 1 : Int32) fun t26 =>
  LETV (t24 + t26 : Int32) fun t27 =>
  LETV (va >>> (9 &&& 31) : Int32) fun t28 =>
  LETV (t28 &&& 1 : Int32) fun t29 =>
  LETV (t27 + t29 : Int32) fun t30 =>
  LETV (va >>> (10 &&& 31) : Int32) fun t31 =>
  LETV (t31 &&& 1 : Int32) fun t32 =>
  LETV (t30 + t32 : Int32) fun t33 =>
  LETV (va >>> (11 &&& 31) : Int32) fun t34 =>
  LETV (t34 &&& 1 : Int32) fun t35 =>
  LETV (t33 + t35 : Int32) fun t36 =>
  (t36 : Int32)
def F_sm_isRow (va : Int32) : Int32 :=
  if F_sm_in (va : Int32) (0 : Int32) (5 : Int32) = 1 then (
    (1 : Int32)
  ) else (
    (0 : Int32)
  )
def F_sm_isText (va : Int32) : Int32 :=
  if F_sm_in (va : Int32) (0 : Int32) (3 : Int32) = 1 then (
    (1 : Int32)
  ) else (
    (0 : Int32)
  )
def F_sm_meet (mu : Nat → Nat → Int32) (vw : Int32) : Int32 × (Nat → Nat → Int32) :=
  LETV (va_up mu 0 (upd (mu 0) 0 vw) : Nat → Nat → Int32) fun nu1 =>
  LETV (nu1 1 vw.toNatClampNeg : Int32) fun y4 =>
  LETV (y4 + 1 : Int32) fun t5 =>
  LETV (va_up nu1 1 (upd (nu1 1) vw.toNatClampNeg t5) : Nat → Nat → Int32) fun nu6 =>
  (((-3) : Int32), nu6)
def F_sm_ask (mu : Nat → Nat → Int32) (va : Int32) (vb : Int32) : Int32 × (Nat → Nat → Int32) :=
  LETV (va_up mu 0 (upd (mu 0) 2 va) : Nat → Nat → Int32) fun nu1 =>
  ((vb : Int32), nu1)
def F_sm_askedRow (mu : Nat → Nat → Int32) (vr : Int32) : Int32 × (Nat → Nat → Int32) :=
  if F_sm_isRow (vr : Int32) = 1 then (
    LETV (mu 2 vr.toNatClampNeg : Int32) fun y2 =>
    if y2 ≥ (0 : Int32) then (
      ((0 : Int32), mu)
    ) else (
      LETP (F_sm_meet mu (1 : Int32)) fun r5 xi5 =>
      ((r5 : Int32), xi5)
    )
  ) else (
    (((-1) : Int32), mu)
  )
def F_sm_askedText (mu : Nat → Nat → Int32) (vt : Int32) : Int32 × (Nat → Nat → Int32) :=
  if F_sm_isText (vt : Int32) = 1 then (
    LETV (mu 5 vt.toNatClampNeg : Int32) fun y2 =>
    if y2 ≥ (0 : Int32) then (
      ((0 : Int32), mu)
    ) else (
      LETP (F_sm_meet mu (1 : Int32)) fun r5 xi5 =>
      ((r5 : Int32), xi5)
    )
  ) else (
    (((-1) : Int32), mu)
  )
def F_sm_rowAt (mu : Nat → Nat → Int32) (vr : Int32) (vi : Int32) : Int32 :=
  LETV (40 * vr : Int32) fun t1 =>
  LETV (t1 + vi : Int32) fun t2 =>
  LETV (mu 3 t2.toNatClampNeg : Int32) fun y3 =>
  (y3 : Int32)
def F_sm_setRow (mu : Nat → Nat → Int32) (vr : Int32) (vi : Int32) (vv : Int32) : Nat → Nat → Int32 :=
  LETV (40 * vr : Int32) fun t1 =>
  LETV (t1 + vi : Int32) fun t2 =>
  LETV (va_up mu 3 (upd (mu 3) t2.toNatClampNeg vv) : Nat → Nat → Int32) fun nu3 =>
  nu3
