def F_sx_worthOn (mu : Nat → Nat → Int32) (kk : Nat) (vd : Int32) : Int32 :=
  LETV (mu kk 2 : Int32) fun y1 =>
  LETV (mu kk 3 : Int32) fun y2 =>
  LETV (mu kk 4 : Int32) fun y3 =>
  LETV (vd - y3 : Int32) fun t4 =>
  LETV (y2 * t4 : Int32) fun t5 =>
  LETV (y1 - t5 : Int32) fun t6 =>
  LETV (if 0 < t6 then t6 else 0 : Int32) fun t7 =>
  (t7 : Int32)
def F_sx_fact (mu : Nat → Nat → Int32) (kk : Nat) (vw : Int32) (vd : Int32) : Int32 :=
  if (vw).toInt < 0 ∨ 3 < (vw).toInt then (
    LETV (mu kk 8 : Int32) fun y2 =>
    (y2 : Int32)
  ) else (
    if (vw).toInt = 0 then (
      LETV (mu kk 0 : Int32) fun y3 =>
      (y3 : Int32)
    ) else (
      if (vw).toInt = 1 then (
        LETV (mu kk 1 : Int32) fun y4 =>
        (y4 : Int32)
      ) else (
        if (vw).toInt = 2 then (
          LETV (F_sx_worthOn mu kk (vd : Int32) : Int32) fun r5 =>
          (r5 : Int32)
        ) else (
          LETV (mu kk 9 : Int32) fun y6 =>
          if y6 = (0 : Int32) then (
            (0 : Int32)
          ) else (
            (1 : Int32)
          )
        )
      )
    )
  )
def F_sx_begin (mu : Nat → Nat → Int32) (kk : Nat) (vx : Int32) (vy : Int32) (vw : Int32) (vl : Int32) (vd : Int32) : Nat → Nat → Int32 :=
  LETV (va_up mu kk (upd (mu kk) 0 vx) : Nat → Nat → Int32) fun nu1 =>
  LETV (va_up nu1 kk (upd (nu1 kk) 1 vy) : Nat → Nat → Int32) fun nu4 =>
  LETV (va_up nu4 kk (upd (nu4 kk) 2 vw) : Nat → Nat → Int32) fun nu8 =>
  LETV (va_up nu8 kk (upd (nu8 kk) 3 vl) : Nat → Nat → Int32) fun nu13 =>
  LETV (va_up nu13 kk (upd (nu13 kk) 4 vd) : Nat → Nat → Int32) fun nu19 =>
  LETV (va_up nu19 kk (upd (nu19 kk) 5 vx) : Nat → Nat → Int32) fun nu26 =>
  LETV (va_up nu26 kk (upd (nu26 kk) 6 0) : Nat → Nat → Int32) fun nu34 =>
  LETV (va_up nu34 kk (upd (nu34 kk) 7 (-9)) : Nat → Nat → Int32) fun nu43 =>
  LETV (va_up nu43 kk (upd (nu43 kk) 8 0) : Nat → Nat → Int32) fun nu53 =>
  LETV (va_up nu53 kk (upd (nu53 kk) 9 0) : Nat → Nat → Int32) fun nu64 =>
  nu64
def F_sx_Letter_beLike (mu : Nat → Nat → Int32) (kk : Nat) (kl : Nat) : Nat → Nat → Int32 :=
  LETV (mu kl 0 : Int32) fun y1 =>
  LETV (va_up mu kk (upd (mu kk) 0 y1) : Nat → Nat → Int32) fun nu2 =>
  LETV (nu2 kl 1 : Int32) fun y5 =>
  LETV (va_up nu2 kk (upd (nu2 kk) 1 y5) : Nat → Nat → Int32) fun nu6 =>
  LETV (nu6 kl 2 : Int32) fun y10 =>
  LETV (va_up nu6 kk (upd (nu6 kk) 2 y10) : Nat → Nat → Int32) fun nu11 =>
  LETV (nu11 kl 3 : Int32) fun y16 =>
  LETV (va_up nu11 kk (upd (nu11 kk) 3 y16) : Nat → Nat → Int32) fun nu17 =>
  LETV (nu17 kl 4 : Int32) fun y23 =>
  LETV (va_up nu17 kk (upd (nu17 kk) 4 y23) : Nat → Nat → Int32) fun nu24 =>
  LETV (nu24 kl 5 : Int32) fun y31 =>
  LETV (va_up nu24 kk (upd (nu24 kk) 5 y31) : Nat → Nat → Int32) fun nu32 =>
  LETV (nu32 kl 6 : Int32) fun y40 =>
  LETV (va_up nu32 kk (upd (nu32 kk) 6 y40) : Nat → Nat → Int32) fun nu41 =>
  LETV (nu41 kl 7 : Int32) fun y50 =>
  LETV (va_up nu41 kk (upd (nu41 kk) 7 y50) : Nat → Nat → Int32) fun nu51 =>
  LETV (nu51 kl 8 : Int32) fun y61 =>
  LETV (va_up nu51 kk (upd (nu51 kk) 8 y61) : Nat → Nat → Int32) fun nu62 =>
  LETV (nu62 kl 9 : Int32) fun y73 =>
  LETV (va_up nu62 kk (upd (nu62 kk) 9 y73) : Nat → Nat → Int32) fun nu74 =>
  nu74
def F_sx_priceOf (mu : Nat → Nat → Int32) (kl : Nat) : Int32 :=
  LETV (mu kl 5 : Int32) fun y1 =>
  LETV (mu 34 y1.toNatClampNeg : Int32) fun y2 =>
  LETV (mu kl 6 : Int32) fun y3 =>
  LETV (F_sx_priceAsked (y2 : Int32) (y3 : Int32) : Int32) fun r4 =>
  (r4 : Int32)
def L_sx_buyersOf_48_0 (kl : Nat) (mu : Nat → Nat → Int32) (r6 : Int32) (y4 : Int32) : Nat → (Int32) → (Int32) → Int32
  | 0, v3_48, v4_48 => 0
  | n + 1, v3_48, v4_48 =>
    LETV (mu 4 6 : Int32) fun y10 =>
    if v4_48 ≥ y10 then (
      (v3_48 : Int32)
    ) else (
      LETV (mu kl 1 : Int32) fun y12 =>
      if v4_48 = y12 then (
        LETV (F_sx_worthOn mu kl (y4 : Int32) : Int32) fun r27 =>
        if r27 < r6 then (
          LETV (1 <<< (v4_48 &&& 31) : Int32) fun t29 =>
          LETV (t29 ^^^ (-1) : Int32) fun t30 =>
          LETV (v3_48 &&& t30 : Int32) fun t31 =>
          LETV ((v4_48 + 1) : Int32) fun w32 =>
          L_sx_buyersOf_48_0 kl mu r6 y4 n (t31 : Int32) (w32 : Int32)
        ) else (
          LETV (mu 46 v4_48.toNatClampNeg : Int32) fun y33 =>
          if y33 ≥ r6 then (
            LETV ((v4_48 + 1) : Int32) fun w35 =>
            L_sx_buyersOf_48_0 kl mu r6 y4 n (v3_48 : Int32) (w35 : Int32)
          ) else (
            LETV (1 <<< (v4_48 &&& 31) : Int32) fun t36 =>
            LETV (t36 ^^^ (-1) : Int32) fun t37 =>
            LETV (v3_48 &&& t37 : Int32) fun t38 =>
            LETV ((v4_48 + 1) : Int32) fun w39 =>
            L_sx_buyersOf_48_0 kl mu r6 y4 n (t38 : Int32) (w39 : Int32)
          )
        )
      ) else (
        LETV (mu 34 v4_48.toNatClampNeg : Int32) fun y14 =>
        if y14 = (3 : Int32) then (
          LETV (1 <<< (v4_48 &&& 31) : Int32) fun t16 =>
          LETV (t16 ^^^ (-1) : Int32) fun t17 =>
          LETV (v3_48 &&& t17 : Int32) fun t18 =>
          LETV ((v4_48 + 1) : Int32) fun w19 =>
          L_sx_buyersOf_48_0 kl mu r6 y4 n (t18 : Int32) (w19 : Int32)
        ) else (
          LETV (mu 46 v4_48.toNatClampNeg : Int32) fun y20 =>
          if y20 ≥ r6 then (
            LETV ((v4_48 + 1) : Int32) fun w22 =>
            L_sx_buyersOf_48_0 kl mu r6 y4 n (v3_48 : Int32) (w22 : Int32)
          ) else (
            LETV (1 <<< (v4_48 &&& 31) : Int32) fun t23 =>
            LETV (t23 ^^^ (-1) : Int32) fun t24 =>
            LETV (v3_48 &&& t24 : Int32) fun t25 =>
            LETV ((v4_48 + 1) : Int32) fun w26 =>
            L_sx_buyersOf_48_0 kl mu r6 y4 n (t25 : Int32) (w26 : Int32)
          )
        )
      )
    )
def F_sx_buyersOf (mu : Nat → Nat → Int32) (kl : Nat) : Int32 :=
  LETV (mu kl 9 : Int32) fun y1 =>
  if y1 = (0 : Int32) then (
    LETV (mu kl 7 : Int32) fun y3 =>
    LETV (mu 5 3 : Int32) fun y4 =>
    if y3 = y4 then (
      (0 : Int32)
    ) else (
      LETV (F_sx_priceOf mu kl : Int32) fun r6 =>
      LETV (mu kl 5 : Int32) fun y7 =>
      LETV (mu 5 2 : Int32) fun y8 =>
      LETV (F_sx_near mu (y7 : Int32) (y8 : Int32) : Int32) fun r9 =>
      L_sx_buyersOf_48_0 kl mu r6 y4 10 (r9 : Int32) (0 : Int32)
    )
  ) else (
    (0 : Int32)
  )
def L_sx_buyableBy_4_0 (mu : Nat → Nat → Int32) (vx : Int32) : Nat → (Int32) → (Int32) → Int32
  | 0, v2_4, v3_4 => 0
  | n + 1, v2_4, v3_4 =>
    LETV (mu 5 4 : Int32) fun y1 =>
    if v3_4 ≥ y1 then (
      (v2_4 : Int32)
    ) else (
      LETV (F_sx_buyersOf mu (61 + v3_4.toNatClampNeg) : Int32) fun r4 =>
      LETV (F_sx_hasBit (r4 : Int32) (vx : Int32) : Int32) fun r5 =>
      if r5 = (0 : Int32) then (
        LETV (v2_4 ||| 0 : Int32) fun t7 =>
        LETV ((v3_4 + 1) : Int32) fun w8 =>
        L_sx_buyableBy_4_0 mu vx n (t7 : Int32) (w8 : Int32)
      ) else (
        LETV (1 <<< (v3_4 &&& 31) : Int32) fun t9 =>
        LETV (v2_4 ||| t9 : Int32) fun t10 =>
        LETV ((v3_4 + 1) : Int32) fun w11 =>
        L_sx_buyableBy_4_0 mu vx n (t10 : Int32) (w11 : Int32)
      )
    )
def F_sx_buyableBy (mu : Nat → Nat → Int32) (vx : Int32) : Int32 :=
  L_sx_buyableBy_4_0 mu vx 7 (0 : Int32) (0 : Int32)
def L_sx_priceOfAll_4_0 (mu : Nat → Nat → Int32) (vb : Int32) : Nat → (Int32) → (Int32) → Int32
  | 0, v2_4, v3_4 => 0
  | n + 1, v2_4, v3_4 =>
    LETV (mu 5 4 : Int32) fun y1 =>
    if v3_4 ≥ y1 then (
      (v2_4 : Int32)
    ) else (
      LETV (F_sx_hasBit (vb : Int32) (v3_4 : Int32) : Int32) fun r3 =>
      if r3 = (0 : Int32) then (
        LETV (v2_4 + 0 : Int32) fun t5 =>
        LETV ((v3_4 + 1) : Int32) fun w6 =>
        L_sx_priceOfAll_4_0 mu vb n (t5 : Int32) (w6 : Int32)
      ) else (
        LETV (F_sx_priceOf mu (61 + v3_4.toNatClampNeg) : Int32) fun r8 =>
        LETV (v2_4 + r8 : Int32) fun t9 =>
        LETV ((v3_4 + 1) : Int32) fun w10 =>
        L_sx_priceOfAll_4_0 mu vb n (t9 : Int32) (w10 : Int32)
      )
    )
def F_sx_priceOfAll (mu : Nat → Nat → Int32) (vb : Int32) : Int32 :=
  L_sx_priceOfAll_4_0 mu vb 7 (0 : Int32) (0 : Int32)
def F_sx_bearerFact (mu : Nat → Nat → Int32) (vx : Int32) (vw : Int32) : Int32 :=
  if (vw).toInt < 0 ∨ 2 < (vw).toInt then (
    LETV (F_sx_unreadWith mu (vx : Int32) : Int32) fun r2 =>
    (r2 : Int32)
  ) else (
    if (vw).toInt = 0 then (
      LETV (mu 34 vx.toNatClampNeg : Int32) fun y3 =>
      (y3 : Int32)
    ) else (
      if (vw).toInt = 1 then (
        LETV (mu 46 vx.toNatClampNeg : Int32) fun y4 =>
        (y4 : Int32)
      ) else (
        LETV (mu 5 2 : Int32) fun y5 =>
        LETV (F_sx_near mu (vx : Int32) (y5 : Int32) : Int32) fun r6 =>
        LETV (F_sx_bitCount (r6 : Int32) : Int32) fun r7 =>
        (r7 : Int32)
      )
    )
  )
