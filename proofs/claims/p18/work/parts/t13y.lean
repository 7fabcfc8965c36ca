def F_sm_isOne (mu : Nat → Nat → Int32) (vx : Int32) : Int32 :=
  LETV (mu 0 8 : Int32) fun y1 =>
  LETV (y1 - 1 : Int32) fun t2 =>
  if F_sm_in (vx : Int32) (0 : Int32) (t2 : Int32) = 1 then (
    (1 : Int32)
  ) else (
    (0 : Int32)
  )
def F_sm_areTwo (mu : Nat → Nat → Int32) (vx : Int32) (vy : Int32) : Int32 :=
  if F_sm_isOne mu (vx : Int32) = 1 then (
    if F_sm_isOne mu (vy : Int32) = 1 then (
      if vx = vy then (
        (0 : Int32)
      ) else (
        (1 : Int32)
      )
    ) else (
      (0 : Int32)
    )
  ) else (
    (0 : Int32)
  )
def F_sm_isA (mu : Nat → Nat → Int32) (vx : Int32) (vd : Int32) : Int32 :=
  LETV (mu 7 vx.toNatClampNeg : Int32) fun y1 =>
  if y1 = vd then (
    (1 : Int32)
  ) else (
    if vd = (1 : Int32) then (
      if y1 = (4 : Int32) then (
        (1 : Int32)
      ) else (
        (0 : Int32)
      )
    ) else (
      if vd = (2 : Int32) then (
        if y1 = (5 : Int32) then (
          (1 : Int32)
        ) else (
          (0 : Int32)
        )
      ) else (
        (0 : Int32)
      )
    )
  )
def F_sm_asksOf (mu : Nat → Nat → Int32) (vx : Int32) (vp : Int32) : Int32 :=
  LETV (mu 7 vx.toNatClampNeg : Int32) fun y1 =>
  if (y1).toInt < 1 ∨ 5 < (y1).toInt then (
    LETV (vp + 1 : Int32) fun t3 =>
    (t3 : Int32)
  ) else (
    if (y1).toInt = 1 then (
      LETV (vp + 3 : Int32) fun t4 =>
      (t4 : Int32)
    ) else (
      if (y1).toInt = 2 then (
        (vp : Int32)
      ) else (
        if (y1).toInt = 3 then (
          LETV (vp + 1 : Int32) fun t5 =>
          (t5 : Int32)
        ) else (
          if (y1).toInt = 4 then (
            LETV (vp + 3 : Int32) fun t6 =>
            LETV (2 * t6 : Int32) fun t7 =>
            (t7 : Int32)
          ) else (
            (0 : Int32)
          )
        )
      )
    )
  )
def L_sm_besideOf_4_0 (mu : Nat → Nat → Int32) (vx : Int32) : Nat → (Int32) → (Int32) → Int32
  | 0, v2_4, v3_4 => 0
  | n + 1, v2_4, v3_4 =>
    LETV (mu 0 11 : Int32) fun y1 =>
    if v3_4 ≥ y1 then (
      (v2_4 : Int32)
    ) else (
      LETV (2 * v3_4 : Int32) fun t3 =>
      LETV (mu 9 t3.toNatClampNeg : Int32) fun y4 =>
      LETV (2 * v3_4 : Int32) fun t5 =>
      LETV (t5 + 1 : Int32) fun t6 =>
      LETV (mu 9 t6.toNatClampNeg : Int32) fun y7 =>
      LETV (mu 0 13 : Int32) fun y8 =>
      if F_sm_has (y8 : Int32) (v3_4 : Int32) = 1 then (
        LETV (v2_4 ||| 0 : Int32) fun t10 =>
        LETV ((v3_4 + 1) : Int32) fun w11 =>
        L_sm_besideOf_4_0 mu vx n (t10 : Int32) (w11 : Int32)
      ) else (
        if y4 = vx then (
          LETV (1 <<< (y7 &&& 31) : Int32) fun t19 =>
          LETV (v2_4 ||| t19 : Int32) fun t20 =>
          LETV ((v3_4 + 1) : Int32) fun w21 =>
          L_sm_besideOf_4_0 mu vx n (t20 : Int32) (w21 : Int32)
        ) else (
          if y7 = vx then (
            LETV (1 <<< (y4 &&& 31) : Int32) fun t16 =>
            LETV (v2_4 ||| t16 : Int32) fun t17 =>
            LETV ((v3_4 + 1) : Int32) fun w18 =>
            L_sm_besideOf_4_0 mu vx n (t17 : Int32) (w18 : Int32)
          ) else (
            LETV (v2_4 ||| 0 : Int32) fun t14 =>
            LETV ((v3_4 + 1) : Int32) fun w15 =>
            L_sm_besideOf_4_0 mu vx n (t14 : Int32) (w15 : Int32)
          )
        )
      )
    )
def F_sm_besideOf (mu : Nat → Nat → Int32) (vx : Int32) : Int32 :=
  L_sm_besideOf_4_0 mu vx 15 (0 : Int32) (0 : Int32)
def F_sm_letterOf5 (mu : Nat → Nat → Int32) (vk : Int32) : Int32 :=
  LETV (10 * vk : Int32) fun t1 =>
  LETV (t1 + 5 : Int32) fun t2 =>
  LETV (mu 10 t2.toNatClampNeg : Int32) fun y4 =>
  (y4 : Int32)
def F_sm_letterOf (mu : Nat → Nat → Int32) (vk : Int32) (vw : Int32) : Int32 :=
  LETV (10 * vk : Int32) fun t1 =>
  LETV (t1 + vw : Int32) fun t2 =>
  LETV (mu 10 t2.toNatClampNeg : Int32) fun y4 =>
  (y4 : Int32)
def F_sm_setLetter0 (mu : Nat → Nat → Int32) (vk : Int32) (vv : Int32) : Nat → Nat → Int32 :=
  LETV (10 * vk : Int32) fun t1 =>
  LETV (t1 + 0 : Int32) fun t2 =>
  LETV (va_up mu 10 (upd (mu 10) t2.toNatClampNeg vv) : Nat → Nat → Int32) fun nu4 =>
  nu4
def F_sm_setLetter1 (mu : Nat → Nat → Int32) (vk : Int32) (vv : Int32) : Nat → Nat → Int32 :=
  LETV (10 * vk : Int32) fun t1 =>
  LETV (t1 + 1 : Int32) fun t2 =>
  LETV (va_up mu 10 (upd (mu 10) t2.toNatClampNeg vv) : Nat → Nat → Int32) fun nu4 =>
  nu4
def F_sm_setLetter2 (mu : Nat → Nat → Int32) (vk : Int32) (vv : Int32) : Nat → Nat → Int32 :=
  LETV (10 * vk : Int32) fun t1 =>
  LETV (t1 + 2 : Int32) fun t2 =>
  LETV (va_up mu 10 (upd (mu 10) t2.toNatClampNeg vv) : Nat → Nat → Int32) fun nu4 =>
  nu4
def F_sm_setLetter3 (mu : Nat → Nat → Int32) (vk : Int32) (vv : Int32) : Nat → Nat → Int32 :=
  LETV (10 * vk : Int32) fun t1 =>
  LETV (t1 + 3 : Int32) fun t2 =>
  LETV (va_up mu 10 (upd (mu 10) t2.toNatClampNeg vv) : Nat → Nat → Int32) fun nu4 =>
  nu4
def F_sm_setLetter4 (mu : Nat → Nat → Int32) (vk : Int32) (vv : Int32) : Nat → Nat → Int32 :=
  LETV (10 * vk : Int32) fun t1 =>
  LETV (t1 + 4 : Int32) fun t2 =>
  LETV (va_up mu 10 (upd (mu 10) t2.toNatClampNeg vv) : Nat → Nat → Int32) fun nu4 =>
  nu4
def F_sm_setLetter5 (mu : Nat → Nat → Int32) (vk : Int32) (vv : Int32) : Nat → Nat → Int32 :=
  LETV (10 * vk : Int32) fun t1 =>
  LETV (t1 + 5 : Int32) fun t2 =>
  LETV (va_up mu 10 (upd (mu 10) t2.toNatClampNeg vv) : Nat → Nat → Int32) fun nu4 =>
  nu4
def F_sm_setLetter6 (mu : Nat → Nat → Int32) (vk : Int32) (vv : Int32) : Nat → Nat → Int32 :=
  LETV (10 * vk : Int32) fun t1 =>
  LETV (t1 + 6 : Int32) fun t2 =>
  LETV (va_up mu 10 (upd (mu 10) t2.toNatClampNeg vv) : Nat → Nat → Int32) fun nu4 =>
  nu4
def F_sm_setLetter7 (mu : Nat → Nat → Int32) (vk : Int32) (vv : Int32) : Nat → Nat → Int32 :=
  LETV (10 * vk : Int32) fun t1 =>
  LETV (t1 + 7 : Int32) fun t2 =>
  LETV (va_up mu 10 (upd (mu 10) t2.toNatClampNeg vv) : Nat → Nat → Int32) fun nu4 =>
  nu4
def F_sm_setLetter8 (mu : Nat → Nat → Int32) (vk : Int32) (vv : Int32) : Nat → Nat → Int32 :=
  LETV (10 * vk : Int32) fun t1 =>
  LETV (t1 + 8 : Int32) fun t2 =>
  LETV (va_up mu 10 (upd (mu 10) t2.toNatClampNeg vv) : Nat → Nat → Int32) fun nu4 =>
  nu4
def F_sm_setLetter9 (mu : Nat → Nat → Int32) (vk : Int32) (vv : Int32) : Nat → Nat → Int32 :=
  LETV (10 * vk : Int32) fun t1 =>
  LETV (t1 + 9 : Int32) fun t2 =>
  LETV (va_up mu 10 (upd (mu 10) t2.toNatClampNeg vv) : Nat → Nat → Int32) fun nu4 =>
  nu4
def F_sm_isRead (mu : Nat → Nat → Int32) (vk : Int32) : Int32 :=
  LETV (F_sm_letterOf mu (vk : Int32) (9 : Int32) : Int32) fun r1 =>
  if r1 = (1 : Int32) then (
    (1 : Int32)
  ) else (
    (0 : Int32)
  )
def F_sm_worthIn (mu : Nat → Nat → Int32) (vk : Int32) (vd : Int32) : Int32 :=
  LETV (F_sm_letterOf mu (vk : Int32) (2 : Int32) : Int32) fun r1 =>
  LETV (F_sm_letterOf mu (vk : Int32) (3 : Int32) : Int32) fun r2 =>
  LETV (mu 0 14 : Int32) fun y3 =>
  LETV (y3 + vd : Int32) fun t4 =>
  LETV (F_sm_letterOf mu (vk : Int32) (4 : Int32) : Int32) fun r5 =>
  LETV (t4 - r5 : Int32) fun t6 =>
  LETV (r2 * t6 : Int32) fun t7 =>
  LETV (r1 - t7 : Int32) fun t8 =>
  if t8 ≥ (0 : Int32) then (
    (t8 : Int32)
  ) else (
    (0 : Int32)
  )
def L_sm_bearerOf_5_0 (mu : Nat → Nat → Int32) (vw : Int32) (vx : Int32) : Nat → (Int32) → (Int32) → Int32
  | 0, v3_5, v4_5 => 0
  | n + 1, v3_5, v4_5 =>
    LETV (mu 0 15 : Int32) fun y1 =>
    if v4_5 ≥ y1 then (
      if vw = (0 : Int32) then (
        LETV (mu 7 vx.toNatClampNeg : Int32) fun y9 =>
        (y9 : Int32)
      ) else (
        if vw = (1 : Int32) then (
          LETV (mu 8 vx.toNatClampNeg : Int32) fun y8 =>
          (y8 : Int32)
        ) else (
          if vw = (2 : Int32) then (
            LETV (F_sm_besideOf mu (vx : Int32) : Int32) fun r6 =>
            LETV (F_sm_sizeOf (r6 : Int32) : Int32) fun r7 =>
            (r7 : Int32)
          ) else (
            (v3_5 : Int32)
          )
        )
      )
    ) else (
      LETV (F_sm_letterOf5 mu (v4_5 : Int32) : Int32) fun r10 =>
      if r10 = vx then (
        LETV (F_sm_isRead mu (v4_5 : Int32) : Int32) fun r14 =>
        if r14 = (0 : Int32) then (
          LETV (v3_5 + 1 : Int32) fun t18 =>
          LETV ((v4_5 + 1) : Int32) fun w19 =>
          L_sm_bearerOf_5_0 mu vw vx n (t18 : Int32) (w19 : Int32)
        ) else (
          LETV (v3_5 + 0 : Int32) fun t16 =>
          LETV ((v4_5 + 1) : Int32) fun w17 =>
          L_sm_bearerOf_5_0 mu vw vx n (t16 : Int32) (w17 : Int32)
        )
      ) else (
        LETV (v3_5 + 0 : Int32) fun t12 =>
        LETV ((v4_5 + 1) : Int32) fun w13 =>
        L_sm_bearerOf_5_0 mu vw vx n (t12 : Int32) (w13 : Int32)
      )
    )
def F_sm_bearerOf (mu : Nat → Nat → Int32) (vx : Int32) (vw : Int32) : Int32 :=
  L_sm_bearerOf_5_0 mu vw vx 7 (0 : Int32) (0 : Int32)
