def L_sm_divisor_4_0 : Nat → (Int32) → (Int32) → Int32
  | 0, v2_4, v3_4 => 0
  | n + 1, v2_4, v3_4 =>
    if v3_4 = (0 : Int32) then (
      (v2_4 : Int32)
    ) else (
      LETV (v2_4 - v2_4 / v3_4 * v3_4 : Int32) fun t2 =>
      L_sm_divisor_4_0 n (v3_4 : Int32) (t2 : Int32)
    )
def F_sm_divisor (va : Int32) (vb : Int32) : Int32 :=
  L_sm_divisor_4_0 2147483650 (va : Int32) (vb : Int32)
def L_sm_allPurses_4_0 (mu : Nat → Nat → Int32) : Nat → (Int32) → (Int32) → Int32
  | 0, v1_4, v2_4 => 0
  | n + 1, v1_4, v2_4 =>
    LETV (mu 0 8 : Int32) fun y1 =>
    if v2_4 ≥ y1 then (
      (v1_4 : Int32)
    ) else (
      LETV (mu 8 v2_4.toNatClampNeg : Int32) fun y3 =>
      LETV (v1_4 + y3 : Int32) fun t4 =>
      LETV ((v2_4 + 1) : Int32) fun w5 =>
      L_sm_allPurses_4_0 mu n (t4 : Int32) (w5 : Int32)
    )
def F_sm_allPurses (mu : Nat → Nat → Int32) : Int32 :=
  L_sm_allPurses_4_0 mu 10 (0 : Int32) (0 : Int32)
def L_sm_richest_4_0 (mu : Nat → Nat → Int32) : Nat → (Int32) → (Int32) → Int32
  | 0, v1_4, v2_4 => 0
  | n + 1, v1_4, v2_4 =>
    LETV (mu 0 8 : Int32) fun y1 =>
    if v2_4 ≥ y1 then (
      (v1_4 : Int32)
    ) else (
      LETV (mu 8 v2_4.toNatClampNeg : Int32) fun y3 =>
      if y3 ≤ v1_4 then (
        LETV ((v2_4 + 1) : Int32) fun w5 =>
        L_sm_richest_4_0 mu n (v1_4 : Int32) (w5 : Int32)
      ) else (
        LETV ((v2_4 + 1) : Int32) fun w6 =>
        L_sm_richest_4_0 mu n (y3 : Int32) (w6 : Int32)
      )
    )
def F_sm_richest (mu : Nat → Nat → Int32) : Int32 :=
  L_sm_richest_4_0 mu 10 (0 : Int32) (0 : Int32)
def F_qm_upper (mu : Nat → Nat → Int32) : Int64 × (Nat → Nat → Int32) :=
  LETV (F_sm_allPurses mu : Int32) fun r1 =>
  if r1 = (0 : Int32) then (
    ((0 : Int64), mu)
  ) else (
    LETV (F_sm_richest mu : Int32) fun r3 =>
    LETV (F_sm_richest mu : Int32) fun r4 =>
    LETV (F_sm_divisor (r4 : Int32) (r1 : Int32) : Int32) fun r5 =>
    LETV (r3 / r5 : Int32) fun t6 =>
    LETV ((t6 : Int32).toInt64 : Int64) fun l7 =>
    ((l7 : Int64), mu)
  )
def F_qm_lower (mu : Nat → Nat → Int32) : Int64 × (Nat → Nat → Int32) :=
  LETV (F_sm_allPurses mu : Int32) fun r1 =>
  if r1 = (0 : Int32) then (
    ((1 : Int64), mu)
  ) else (
    LETV (F_sm_richest mu : Int32) fun r3 =>
    LETV (F_sm_divisor (r3 : Int32) (r1 : Int32) : Int32) fun r4 =>
    LETV (r1 / r4 : Int32) fun t5 =>
    LETV ((t5 : Int32).toInt64 : Int64) fun l6 =>
    ((l6 : Int64), mu)
  )
