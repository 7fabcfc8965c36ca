-- ===== bits (the family of the kit's BITS, what is used of it) =====
def bt (x : Int32) (i : Nat) : Bool := x.toBitVec.getLsbD i
theorem b_ext {x y : Int32} (h : ∀ i, i < 32 → bt x i = bt y i) : x = y := Int32.toBitVec_inj.mp (BitVec.eq_of_getLsbD_eq (fun i hi => h i hi))
theorem b_or (x y : Int32) (i : Nat) : bt (x ||| y) i = (bt x i || bt y i) := by unfold bt; rw [Int32.toBitVec_or, BitVec.getLsbD_or]
theorem b_and (x y : Int32) (i : Nat) : bt (x &&& y) i = (bt x i && bt y i) := by unfold bt; rw [Int32.toBitVec_and, BitVec.getLsbD_and]
theorem b_xor (x y : Int32) (i : Nat) : bt (x ^^^ y) i = (bt x i ^^ bt y i) := by unfold bt; rw [Int32.toBitVec_xor, BitVec.getLsbD_xor]
theorem b_m1 : ∀ i, i < 32 → bt (-1) i = true := by decide +kernel
theorem s_l : ∀ n, n < 32 → ((nI n &&& 31).toBitVec.smod 32).toNat = n := by decide +kernel
theorem b_shl (n : Nat) (hn : n < 32) (x : Int32) {i : Nat} (hi : i < 32) : bt (x <<< (nI n &&& 31)) i = (decide (n ≤ i) && bt x (i - n)) := by
  unfold bt
  rw [Int32.toBitVec_shiftLeft]
  show (x.toBitVec <<< ((nI n &&& 31).toBitVec.smod 32).toNat).getLsbD i = _
  rw [s_l n hn, BitVec.getLsbD_shiftLeft]
  rcases Nat.lt_or_ge i n with h | h
  · simp [h, Nat.not_le.mpr h]
  · simp [hi, h, Nat.not_lt.mpr h]
theorem b_sshr (n : Nat) (hn : n < 32) (x : Int32) {i : Nat} (hi : i < 32) : bt (x >>> (nI n &&& 31)) i = if n + i < 32 then bt x (n + i) else bt x 31 := by
  unfold bt
  rw [Int32.toBitVec_shiftRight]
  show (x.toBitVec.sshiftRight ((nI n &&& 31).toBitVec.smod 32).toNat).getLsbD i = _
  rw [s_l n hn, BitVec.getLsbD_sshiftRight, BitVec.msb_eq_getLsbD_last]
  simp [hi]
/-- what the reference's has() looks at -/
def rb (x k : Int32) : Int32 := (x >>> (k &&& 31)) &&& 1
theorem b_1 : ∀ i, i < 32 → bt 1 i = decide (i = 0) := by decide +kernel
theorem nI_at {k : Int32} (h : 0 ≤ k.toInt) : k = nI k.toNatClampNeg := by
  apply Int32.toInt_inj.mp
  have h1 := tC_of h
  have h2 := Int32.toInt_lt k
  rw [nI_toInt (by omega)]
  omega
theorem rb_bt {x k : Int32} (h1 : 0 ≤ k.toInt) (h2 : k.toInt ≤ 31) : rb x k = if bt x k.toNatClampNeg then 1 else 0 := by
  have h3 := tC_of h1
  have hn : k.toNatClampNeg < 32 := by omega
  rw [nI_at h1]
  have h4 : (nI k.toNatClampNeg).toNatClampNeg = k.toNatClampNeg := by rw [← nI_at h1]
  rw [h4]
  generalize k.toNatClampNeg = n at hn
  apply b_ext
  intro i hi
  unfold rb
  rw [b_and, b_sshr n hn x hi, b_1 i hi]
  by_cases c : i = 0
  · subst c
    simp only [Nat.add_zero, if_pos hn]
    cases bt x n <;> simp <;> decide
  · simp only [c, decide_false, Bool.and_false]
    have z0 : ∀ i, i < 32 → bt 0 i = false := by decide +kernel
    have z1 : ∀ i, i < 32 → i ≠ 0 → bt 1 i = false := by decide +kernel
    cases bt x n
    · exact (z0 i hi).symm
    · exact (z1 i hi c).symm
theorem rb_1 {x k : Int32} (h1 : 0 ≤ k.toInt) (h2 : k.toInt ≤ 31) : rb x k = 1 ↔ bt x k.toNatClampNeg = true := by
  rw [rb_bt h1 h2]
  cases bt x k.toNatClampNeg <;> simp
/-- a number of seven bits, as a number -/
def n7 (a : Nat) : Int32 := nI a
def pp (a : Nat) : Nat := a % 2 + a / 2 % 2 + a / 4 % 2 + a / 8 % 2 + a / 16 % 2 + a / 32 % 2 + a / 64 % 2
/-- of seven bits, n of them set -/
def h7 (n : Nat) (v : Int32) : Prop := 0 ≤ v.toInt ∧ v.toInt ≤ 127 ∧ pp v.toNatClampNeg = n
theorem h7_bt : ∀ a, a < 128 → ∀ x, x < 7 → bt (nI a) x = false → pp (nI a ||| ((1 : Int32) <<< (nI x &&& 31))).toNatClampNeg = pp a + 1 ∧ 0 ≤ (nI a ||| ((1 : Int32) <<< (nI x &&& 31))).toInt ∧ (nI a ||| ((1 : Int32) <<< (nI x &&& 31))).toInt ≤ 127 := by decide +kernel
theorem h7_all : ∀ a, a < 128 → pp a ≤ 7 ∧ (pp a = 7 → ∀ x, x < 7 → bt (nI a) x = true) := by decide +kernel
theorem o7_all : ∀ a, a < 128 → ∀ x, x < 7 → 0 ≤ (nI a ||| ((1 : Int32) <<< (nI x &&& 31))).toInt ∧ (nI a ||| ((1 : Int32) <<< (nI x &&& 31))).toInt ≤ 127 := by decide +kernel
theorem o7 {v x : Int32} (h1 : 0 ≤ v.toInt) (h2 : v.toInt ≤ 127) (h3 : 0 ≤ x.toInt) (h4 : x.toInt ≤ 6) : 0 ≤ (v ||| ((1 : Int32) <<< (x &&& 31))).toInt ∧ (v ||| ((1 : Int32) <<< (x &&& 31))).toInt ≤ 127 := by
  have e1 := tC_of h1
  have e2 := tC_of h3
  rw [nI_at h1, nI_at h3]
  exact o7_all _ (by omega) _ (by omega)
theorem h7_one {x : Int32} (h3 : 0 ≤ x.toInt) (h4 : x.toInt ≤ 6) : h7 1 ((1 : Int32) <<< (x &&& 31)) := by
  have e2 := tC_of h3
  rw [nI_at h3]
  have key : ∀ x, x < 7 → 0 ≤ ((1 : Int32) <<< (nI x &&& 31)).toInt ∧ ((1 : Int32) <<< (nI x &&& 31)).toInt ≤ 127 ∧ pp ((1 : Int32) <<< (nI x &&& 31)).toNatClampNeg = 1 := by decide +kernel
  exact key _ (by omega)
/-- one who isn't among 'had' yet, and is beside: one more then -/
theorem h7_next {n : Nat} {v b x near : Int32} (h : h7 n v) (hn : near = b &&& (v ^^^ (-1))) (h3 : 0 ≤ x.toInt) (h4 : x.toInt ≤ 6) (hr : rb near x = 1) : h7 (n + 1) (v ||| ((1 : Int32) <<< (x &&& 31))) := by
  obtain ⟨a1, a2, a3⟩ := h
  have e1 := tC_of a1
  have e2 := tC_of h3
  have hb := (rb_1 h3 (by omega)).mp hr
  rw [hn, b_and, b_xor, b_m1 _ (by omega)] at hb
  have hv : bt v x.toNatClampNeg = false := by
    cases hq : bt v x.toNatClampNeg
    · rfl
    · rw [hq] at hb
      simp at hb
  rw [nI_at a1] at hv
  have key := h7_bt _ (show v.toNatClampNeg < 128 by omega) _ (show x.toNatClampNeg < 7 by omega) hv
  rw [← nI_at a1, ← nI_at h3] at key
  exact ⟨key.2.1, key.2.2, by rw [key.1, a3]⟩
theorem h7_full {n : Nat} {v b x near : Int32} (h : h7 n v) (hn : near = b &&& (v ^^^ (-1))) (h3 : 0 ≤ x.toInt) (h4 : x.toInt ≤ 6) (hr : rb near x = 1) : n < 7 := by
  obtain ⟨a1, a2, a3⟩ := h
  have e1 := tC_of a1
  have e2 := tC_of h3
  have key := h7_all _ (show v.toNatClampNeg < 128 by omega)
  rw [a3] at key
  rcases Nat.lt_or_ge n 7 with c | c
  · exact c
  · have h9 := key.2 (by omega) x.toNatClampNeg (by omega)
    rw [← nI_at a1] at h9
    have hb := (rb_1 h3 (by omega)).mp hr
    rw [hn, b_and, b_xor, b_m1 _ (by omega), h9] at hb
    simp at hb
/-- set bits from place x on -/
def ab (a x : Nat) : Nat := pp (a / 2 ^ x)
theorem ab_s : ∀ a, a < 128 → ∀ x, x < 7 → ab a x = (if bt (nI a) x then 1 else 0) + ab a (x + 1) := by decide +kernel
theorem ab_7 : ∀ a, a < 128 → ab a 7 = 0 := by decide +kernel
theorem ab_0 (a : Nat) : ab a 0 = pp a := by unfold ab; simp
theorem pp_0 : ∀ a, a < 128 → pp a = 0 → a = 0 := by decide +kernel
theorem so_pp : ∀ a, a < 128 → ((((((((((((0 + rb (nI a) 0) + rb (nI a) 1) + rb (nI a) 2) + rb (nI a) 3) + rb (nI a) 4) + rb (nI a) 5) + rb (nI a) 6) + rb (nI a) 7) + rb (nI a) 8) + rb (nI a) 9) + rb (nI a) 10) + rb (nI a) 11) = nI (pp a) := by decide +kernel
/-- the reference's sizeOf() -/
def so (v : Int32) : Int32 := (((((((((((0 + rb v 0) + rb v 1) + rb v 2) + rb v 3) + rb v 4) + rb v 5) + rb v 6) + rb v 7) + rb v 8) + rb v 9) + rb v 10) + rb v 11
theorem so_7 {v : Int32} (h1 : 0 ≤ v.toInt) (h2 : v.toInt ≤ 127) : (so v).toInt = pp v.toNatClampNeg ∧ pp v.toNatClampNeg ≤ 7 ∧ (v.toInt = 0 ∨ 1 ≤ pp v.toNatClampNeg) := by
  have e1 := tC_of h1
  have hl : v.toNatClampNeg < 128 := by omega
  have h := so_pp _ hl
  have h3 := (h7_all _ hl).1
  rw [← nI_at h1] at h
  refine ⟨?_, h3, ?_⟩
  · show (((((((((((((0 + rb v 0) + rb v 1) + rb v 2) + rb v 3) + rb v 4) + rb v 5) + rb v 6) + rb v 7) + rb v 8) + rb v 9) + rb v 10) + rb v 11)).toInt = _
    rw [h, nI_toInt (by omega)]
  · rcases Nat.eq_zero_or_pos (pp v.toNatClampNeg) with c | c
    · left
      have := pp_0 _ hl c
      omega
    · right; exact c
theorem ab_step {v x : Int32} (h1 : 0 ≤ v.toInt) (h2 : v.toInt ≤ 127) (h3 : 0 ≤ x.toInt) (h4 : x.toInt ≤ 6) : (rb v x = 1 → ab v.toNatClampNeg x.toNatClampNeg = 1 + ab v.toNatClampNeg (x.toNatClampNeg + 1)) ∧ (¬ rb v x = 1 → ab v.toNatClampNeg x.toNatClampNeg = ab v.toNatClampNeg (x.toNatClampNeg + 1)) := by
  have e1 := tC_of h1
  have e2 := tC_of h3
  have h := ab_s _ (show v.toNatClampNeg < 128 by omega) _ (show x.toNatClampNeg < 7 by omega)
  rw [← nI_at h1] at h
  rw [rb_1 h3 (by omega)]
  constructor
  · intro c; rw [h, if_pos c]
  · intro c; rw [h, if_neg c]; omega
theorem lc_le {a b : Int64} {t : Int32} (h : t = lg_cmp a b) (ht : t.toInt ≤ 0) : a.toInt ≤ b.toInt := by
  rcases Int.lt_or_le b.toInt a.toInt with c | c
  · have h1 : b < a := Int64.lt_iff_toInt_lt.mpr c
    exfalso
    rw [h] at ht
    simp only [lg_cmp] at ht
    rw [if_pos h1] at ht
    exact absurd ht (by decide)
  · exact c
theorem lc_add {x y z : Int32} {t : Int32} {la lb lc ld : Int64} (h : t = lg_cmp lc ld) (h1 : la = x.toInt64) (h2 : lb = y.toInt64) (h3 : lc = la + lb) (h4 : ld = z.toInt64) : t.toInt ≤ 0 → x.toInt + y.toInt ≤ z.toInt := fun ht => by
  have h9 := lc_le h ht
  rw [h3, h4, h1, h2, Int64.toInt_add, Int32.toInt_toInt64, Int32.toInt_toInt64, Int32.toInt_toInt64] at h9
  have e1 := tI_lo x; have e2 := tI_hi x; have e3 := tI_lo y; have e4 := tI_hi y
  rw [Int.bmod_eq_of_le (by omega) (by omega)] at h9
  exact h9
theorem rem_lt {x y : Int32} (h : ¬ y.toInt = 0) : (x % y).toInt.natAbs < y.toInt.natAbs := by
  rw [Int32.toInt_mod, Int.natAbs_tmod]
  exact Nat.mod_lt _ (by omega)
theorem lrem_rng {a b : Int64} {c : Int} (h1 : 0 ≤ a.toInt) (hb : b.toInt = c) (hc : 0 < c) : 0 ≤ (a % b).toInt ∧ (a % b).toInt < c := by
  rw [Int64.toInt_mod, hb]
  exact ⟨Int.tmod_nonneg _ h1, Int.tmod_lt_of_pos _ hc⟩
theorem l2i_of {a : Int64} {t : Int32} (h : t = a.toInt32) (h1 : 0 ≤ a.toInt) (h2 : a.toInt < 2147483648) : t.toInt = a.toInt := by
  rw [h, Int64.toInt_toInt32]
  exact Int.bmod_eq_of_le (by omega) (by omega)
theorem lot_rng {n l1 l2 : Int64} (h : 0 ≤ n.toInt ∧ n.toInt ≤ 2147483646) (h1 : l1 = 48271 * n) (h2 : l2 = l1 % 2147483647) : 0 ≤ l2.toInt ∧ l2.toInt ≤ 2147483646 := by
  have e : l1.toInt = 48271 * n.toInt := by
    rw [h1, Int64.toInt_mul]
    exact Int.bmod_eq_of_le (by show _ ≤ (48271 : Int) * n.toInt; omega) (by show (48271 : Int) * n.toInt < _; omega)
  have h9 := lrem_rng (a := l1) (b := 2147483647) (c := 2147483647) (by omega) rfl (by decide)
  rw [h2]
  omega
