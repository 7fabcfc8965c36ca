def L_sm_divisor_4_0 : Nat → (Int32) → (Int32) → Int32
  | 0, v2_4, v3_4 => 0
  | n + 1, v2_4, v3_4 =>
    if v3_4 = (0 : Int32) then (
      (v2_4 : Int32)
    ) else (
      LETV (v2_4 - v2_4 / v3_4 * v3_4 : Int32) fun t2 =>
      L_sm_divisor_4_0 n (v3_4 : Int32) (t2 : Int32)
    )
def F_sm_divisor (va : Int32) (vb : Int32) : Int32 :=
  L_sm_divisor_4_0 2147483650 (va : Int32) (vb : Int32)
def L_sm_allPurses_4_0 (mu : Nat → Nat → Int32) : Nat → (Int32) → (Int32) → Int32
  | 0, v1_4, v2_4 => 0
  | n + 1, v1_4, v2_4 =>
    LETV (mu 0 8 : Int32) fun y1 =>
    if v2_4 ≥ y1 then (
      (v1_4 : Int32)
    ) else (
      LETV (mu 8 v2_4.toNatClampNeg : Int32) fun y3 =>
      LETV (v1_4 + y3 : Int32) fun t4 =>
      LETV ((v2_4 + 1) : Int32) fun w5 =>
      L_sm_allPurses_4_0 mu n (t4 : Int32) (w5 : Int32)
    )
def F_sm_allPurses (mu : Nat → Nat → Int32) : Int32 :=
  L_sm_allPurses_4_0 mu 10 (0 : Int32) (0 : Int32)
def L_sm_richest_4_0 (mu : Nat → Nat → Int32) : Nat → (Int32) → (Int32) → Int32
  | 0, v1_4, v2_4 => 0
  | n + 1, v1_4, v2_4 =>
    LETV (mu 0 8 : Int32) fun y1 =>
    if v2_4 ≥ y1 then (
      (v1_4 : Int32)
    ) else (
      LETV (mu 8 v2_4.toNatClampNeg : Int32) fun y3 =>
      if y3 ≤ v1_4 then (
        LETV ((v2_4 + 1) : Int32) fun w5 =>
        L_sm_richest_4_0 mu n (v1_4 : Int32) (w5 : Int32)
      ) else (
        LETV ((v2_4 + 1) : Int32) fun w6 =>
        L_sm_richest_4_0 mu n (y3 : Int32) (w6 : Int32)
      )
    )
def F_sm_richest (mu : Nat → Nat → Int32) : Int32 :=
  L_sm_richest_4_0 mu 10 (0 : Int32) (0 : Int32)
def F_qm_upper (mu : Nat → Nat → Int32) : Int64 × (Nat → Nat → Int32) :=
  LETV (F_sm_allPurses mu : Int32) fun r1 =>
  if r1 = (0 : Int32) then (
    ((0 : Int64), mu)
  ) else (
    LETV (F_sm_richest mu : Int32) fun r3 =>
    LETV (F_sm_richest mu : Int32) fun r4 =>
    LETV (F_sm_divisor (r4 : Int32) (r1 : Int32) : Int32) fun r5 =>
    LETV (r3 / r5 : Int32) fun t6 =>
    LETV ((t6 : Int32).toInt64 : Int64) fun l7 =>
    ((l7 : Int64), mu)
  )
def F_qm_lower (mu : Nat → Nat → Int32) : Int64 × (Nat → Nat → Int32) :=
  LETV (F_sm_allPurses mu : Int32) fun r1 =>
  if r1 = (0 : Int32) then (
    ((1 : Int64), mu)
  ) else (
    LETV (F_sm_richest mu : Int32) fun r3 =>
    LETV (F_sm_divisor (r3 : Int32) (r1 : Int32) : Int32) fun r4 =>
    LETV (r1 / r4 : Int32) fun t5 =>
    LETV ((t5 : Int32).toInt64 : Int64) fun l6 =>
    ((l6 : Int64), mu)
  )
def L_sm_tells_4_0 (mu : Nat → Nat → Int32) (vw : Int32) : Nat → (Int32) → (Int32) → Int32
  | 0, v2_4, v3_4 => 0
  | n + 1, v2_4, v3_4 =>
    if v3_4 ≥ (6 : Int32) then (
      if (vw).toInt < 0 ∨ 5 < (vw).toInt then (
        (v2_4 : Int32)
      ) else (
        if (vw).toInt = 0 then (
          LETV (mu 0 8 : Int32) fun y3 =>
          (y3 : Int32)
        ) else (
          if (vw).toInt = 1 then (
            LETV (mu 0 11 : Int32) fun y4 =>
            (y4 : Int32)
          ) else (
            if (vw).toInt = 2 then (
              LETV (mu 0 14 : Int32) fun y5 =>
              (y5 : Int32)
            ) else (
              if (vw).toInt = 3 then (
                LETV (mu 0 15 : Int32) fun y6 =>
                (y6 : Int32)
              ) else (
                if (vw).toInt = 4 then (
                  LETV (mu 0 17 : Int32) fun y7 =>
                  (y7 : Int32)
                ) else (
                  LETV (mu 0 13 : Int32) fun y8 =>
                  LETV (F_sm_sizeOf (y8 : Int32) : Int32) fun r9 =>
                  (r9 : Int32)
                )
              )
            )
          )
        )
      )
    ) else (
      if vw = (6 : Int32) then (
        LETV (mu 2 v3_4.toNatClampNeg : Int32) fun y37 =>
        if y37 ≥ (0 : Int32) then (
          LETV (v2_4 + 1 : Int32) fun t39 =>
          LETV ((v3_4 + 1) : Int32) fun w40 =>
          L_sm_tells_4_0 mu vw n (t39 : Int32) (w40 : Int32)
        ) else (
          LETV (v2_4 + 0 : Int32) fun t43 =>
          LETV ((v3_4 + 1) : Int32) fun w44 =>
          L_sm_tells_4_0 mu vw n (t43 : Int32) (w44 : Int32)
        )
      ) else (
        if vw = (7 : Int32) then (
          if v3_4 ≥ (4 : Int32) then (
            LETV (v2_4 + 0 : Int32) fun t28 =>
            LETV ((v3_4 + 1) : Int32) fun w29 =>
            L_sm_tells_4_0 mu vw n (t28 : Int32) (w29 : Int32)
          ) else (
            LETV (mu 5 v3_4.toNatClampNeg : Int32) fun y30 =>
            if y30 ≥ (0 : Int32) then (
              LETV (v2_4 + 1 : Int32) fun t32 =>
              LETV ((v3_4 + 1) : Int32) fun w33 =>
              L_sm_tells_4_0 mu vw n (t32 : Int32) (w33 : Int32)
            ) else (
              LETV (v2_4 + 0 : Int32) fun t35 =>
              LETV ((v3_4 + 1) : Int32) fun w36 =>
              L_sm_tells_4_0 mu vw n (t35 : Int32) (w36 : Int32)
            )
          )
        ) else (
          if vw = (8 : Int32) then (
            if v3_4 ≥ (3 : Int32) then (
              LETV (v2_4 + 0 : Int32) fun t16 =>
              LETV ((v3_4 + 1) : Int32) fun w17 =>
              L_sm_tells_4_0 mu vw n (t16 : Int32) (w17 : Int32)
            ) else (
              LETV (64 * v3_4 : Int32) fun t18 =>
              LETV (mu 15 t18.toNatClampNeg : Int32) fun y20 =>
              if y20 = ((-9) : Int32) then (
                LETV (v2_4 + 0 : Int32) fun t22 =>
                LETV ((v3_4 + 1) : Int32) fun w23 =>
                L_sm_tells_4_0 mu vw n (t22 : Int32) (w23 : Int32)
              ) else (
                LETV (v2_4 + 1 : Int32) fun t24 =>
                LETV ((v3_4 + 1) : Int32) fun w25 =>
                L_sm_tells_4_0 mu vw n (t24 : Int32) (w25 : Int32)
              )
            )
          ) else (
            LETV (v2_4 + 0 : Int32) fun t13 =>
            LETV ((v3_4 + 1) : Int32) fun w14 =>
            L_sm_tells_4_0 mu vw n (t13 : Int32) (w14 : Int32)
          )
        )
      )
    )
def F_sm_tells (mu : Nat → Nat → Int32) (vw : Int32) : Int32 :=
  L_sm_tells_4_0 mu vw 9 (0 : Int32) (0 : Int32)
