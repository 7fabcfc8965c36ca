def F_sx_hasBit (va : Int32) (vb : Int32) : Int32 :=
  LETV (va >>> (vb &&& 31) : Int32) fun t1 =>
  LETV (t1 &&& 1 : Int32) fun t2 =>
  if t2 = (0 : Int32) then (
    (0 : Int32)
  ) else (
    (1 : Int32)
  )
def F_sx_priceAsked (va : Int32) (vb : Int32) : Int32 :=
  if (va).toInt < 1 ∨ 5 < (va).toInt then (
    LETV (vb + 1 : Int32) fun t2 =>
    (t2 : Int32)
  ) else (
    if (va).toInt = 1 then (
      LETV (vb + 3 : Int32) fun t3 =>
      (t3 : Int32)
    ) else (
      if (va).toInt = 2 then (
        (vb : Int32)
      ) else (
        if (va).toInt = 3 then (
          LETV (vb + 1 : Int32) fun t4 =>
          (t4 : Int32)
        ) else (
          if (va).toInt = 4 then (
            LETV (vb + 3 : Int32) fun t5 =>
            LETV (2 * t5 : Int32) fun t6 =>
            (t6 : Int32)
          ) else (
            (0 : Int32)
          )
        )
      )
    )
  )
def F_sx_isOfKind (va : Int32) (vb : Int32) : Int32 :=
  if va = vb then (
    (1 : Int32)
  ) else (
    if vb = (0 : Int32) then (
      (1 : Int32)
    ) else (
      if va = (4 : Int32) then (
        if vb = (1 : Int32) then (
          (1 : Int32)
        ) else (
          (0 : Int32)
        )
      ) else (
        if va = (5 : Int32) then (
          if vb = (2 : Int32) then (
            (1 : Int32)
          ) else (
            (0 : Int32)
          )
        ) else (
          (0 : Int32)
        )
      )
    )
  )
def F_sx_isRow (va : Int32) : Int32 :=
  if va < (0 : Int32) then (
    (0 : Int32)
  ) else (
    if va ≥ (6 : Int32) then (
      (0 : Int32)
    ) else (
      (1 : Int32)
    )
  )
def F_sx_isText (va : Int32) : Int32 :=
  if va < (0 : Int32) then (
    (0 : Int32)
  ) else (
    if va ≥ (4 : Int32) then (
      (0 : Int32)
    ) else (
      (1 : Int32)
    )
  )
def F_sx_isPlace (va : Int32) : Int32 :=
  if va < (0 : Int32) then (
    (0 : Int32)
  ) else (
    if va ≥ (3 : Int32) then (
      (0 : Int32)
    ) else (
      (1 : Int32)
    )
  )
def F_sx_has (mu : Nat → Nat → Int32) (vx : Int32) : Int32 :=
  if vx < (0 : Int32) then (
    (0 : Int32)
  ) else (
    LETV (mu 4 6 : Int32) fun y2 =>
    if vx ≥ y2 then (
      (0 : Int32)
    ) else (
      (1 : Int32)
    )
  )
def F_sx_found (mu : Nat → Nat → Int32) (vw : Int32) : Int32 × (Nat → Nat → Int32) :=
  LETV (va_up mu 0 (upd (mu 0) 9 vw) : Nat → Nat → Int32) fun nu1 =>
  LETV (nu1 7 vw.toNatClampNeg : Int32) fun y4 =>
  LETV (y4 + 1 : Int32) fun t5 =>
  LETV (va_up nu1 7 (upd (nu1 7) vw.toNatClampNeg t5) : Nat → Nat → Int32) fun nu6 =>
  (((-3) : Int32), nu6)
def L_sx_near_5_0 (mu : Nat → Nat → Int32) (vs : Int32) (vx : Int32) : Nat → (Int32) → (Int32) → Int32
  | 0, v3_5, v4_5 => 0
  | n + 1, v3_5, v4_5 =>
    LETV (mu 4 7 : Int32) fun y1 =>
    if v4_5 ≥ y1 then (
      (v3_5 : Int32)
    ) else (
      LETV (F_sx_hasBit (vs : Int32) (v4_5 : Int32) : Int32) fun r3 =>
      if r3 = (0 : Int32) then (
        LETV (mu 35 v4_5.toNatClampNeg : Int32) fun y5 =>
        if y5 = vx then (
          LETV (mu 36 v4_5.toNatClampNeg : Int32) fun y13 =>
          LETV (1 <<< (y13 &&& 31) : Int32) fun t14 =>
          LETV (v3_5 ||| t14 : Int32) fun t15 =>
          LETV ((v4_5 + 1) : Int32) fun w16 =>
          L_sx_near_5_0 mu vs vx n (t15 : Int32) (w16 : Int32)
        ) else (
          LETV (mu 36 v4_5.toNatClampNeg : Int32) fun y7 =>
          if y7 = vx then (
            LETV (1 <<< (y5 &&& 31) : Int32) fun t10 =>
            LETV (v3_5 ||| t10 : Int32) fun t11 =>
            LETV ((v4_5 + 1) : Int32) fun w12 =>
            L_sx_near_5_0 mu vs vx n (t11 : Int32) (w12 : Int32)
          ) else (
            LETV ((v4_5 + 1) : Int32) fun w9 =>
            L_sx_near_5_0 mu vs vx n (v3_5 : Int32) (w9 : Int32)
          )
        )
      ) else (
        LETV ((v4_5 + 1) : Int32) fun w17 =>
        L_sx_near_5_0 mu vs vx n (v3_5 : Int32) (w17 : Int32)
      )
    )
def F_sx_near (mu : Nat → Nat → Int32) (vx : Int32) (vs : Int32) : Int32 :=
  L_sx_near_5_0 mu vs vx 15 (0 : Int32) (0 : Int32)
def F_sx_Row_isMissing (mu : Nat → Nat → Int32) (kk : Nat) : Int32 :=
  LETV (mu kk 1 : Int32) fun y1 =>
  if y1 ≥ (0 : Int32) then (
    (0 : Int32)
  ) else (
    (1 : Int32)
  )
def F_sx_Text_isMissing (mu : Nat → Nat → Int32) (kk : Nat) : Int32 :=
  LETV (mu kk 1 : Int32) fun y1 =>
  if y1 ≥ (0 : Int32) then (
    (0 : Int32)
  ) else (
    (1 : Int32)
  )
def F_sx_refusedRow (mu : Nat → Nat → Int32) (vr : Int32) : Int32 × (Nat → Nat → Int32) :=
  if F_sx_isRow (vr : Int32) = 1 then (
    if F_sx_Row_isMissing mu (8 + vr.toNatClampNeg) = 1 then (
      LETP (F_sx_found mu (1 : Int32)) fun r4 xi4 =>
      ((r4 : Int32), xi4)
    ) else (
      ((0 : Int32), mu)
    )
  ) else (
    (((-1) : Int32), mu)
  )
def F_sx_refusedText (mu : Nat → Nat → Int32) (vt : Int32) : Int32 × (Nat → Nat → Int32) :=
  if F_sx_isText (vt : Int32) = 1 then (
    if F_sx_Text_isMissing mu (14 + vt.toNatClampNeg) = 1 then (
      LETP (F_sx_found mu (1 : Int32)) fun r4 xi4 =>
      ((r4 : Int32), xi4)
    ) else (
      ((0 : Int32), mu)
    )
  ) else (
    (((-1) : Int32), mu)
  )
