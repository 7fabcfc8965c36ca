def F_sx_walkAll (mu : Nat → Nat → Int32) : Nat → Nat → Int32 :=
  LETV (va_up mu 32 (upd (mu 32) 11 0) : Nat → Nat → Int32) fun nu1 =>
  LETV (va_up nu1 32 (upd (nu1 32) 12 0) : Nat → Nat → Int32) fun nu4 =>
  LETV (va_up nu4 32 (upd (nu4 32) 13 (-1)) : Nat → Nat → Int32) fun nu8 =>
  LETV (va_up nu8 32 (upd (nu8 32) 14 2147483647) : Nat → Nat → Int32) fun nu13 =>
  LETV (va_up nu13 55 (upd (nu13 55) 3 0) : Nat → Nat → Int32) fun nu19 =>
  LETV (va_up nu19 56 (upd (nu19 56) 3 0) : Nat → Nat → Int32) fun nu26 =>
  LETV (nu26 32 5 : Int32) fun y34 =>
  LETV (va_up nu26 54 (upd (nu26 54) (0 : Int32).toNatClampNeg y34) : Nat → Nat → Int32) fun nu35 =>
  LETV (1 <<< (y34 &&& 31) : Int32) fun t44 =>
  LETV (nu35 32 7 : Int32) fun y45 =>
  LETV (F_sx_walkOn0 nu35 (t44 : Int32) (y45 : Int32) : Nat → Nat → Int32) fun xi46 =>
  xi46
def F_sx_walkOf (mu : Nat → Nat → Int32) (kl : Nat) : Nat → Nat → Int32 :=
  LETV (F_sx_lookAt mu kl : Nat → Nat → Int32) fun xi1 =>
  LETV (F_sx_walkAll xi1 : Nat → Nat → Int32) fun xi3 =>
  xi3
def F_sx_walkNew (mu : Nat → Nat → Int32) (vx : Int32) (vy : Int32) : Nat → Nat → Int32 :=
  LETV (F_sx_lookFrom mu (vx : Int32) (vy : Int32) (0 : Int32) : Nat → Nat → Int32) fun xi1 =>
  LETV (va_up xi1 32 (upd (xi1 32) 8 0) : Nat → Nat → Int32) fun nu3 =>
  LETV (va_up nu3 32 (upd (nu3 32) 9 0) : Nat → Nat → Int32) fun nu6 =>
  LETV (va_up nu6 32 (upd (nu6 32) 10 0) : Nat → Nat → Int32) fun nu10 =>
  LETV (F_sx_walkAll nu10 : Nat → Nat → Int32) fun xi15 =>
  xi15
def F_sx_walkWithLoan (mu : Nat → Nat → Int32) (vx : Int32) (vl : Int32) : Nat → Nat → Int32 :=
  LETV (mu 53 vx.toNatClampNeg : Int32) fun y1 =>
  LETV (va_up mu 53 (upd (mu 53) vx.toNatClampNeg vl) : Nat → Nat → Int32) fun nu2 =>
  LETV (F_sx_walkAll nu2 : Nat → Nat → Int32) fun xi4 =>
  LETV (va_up xi4 53 (upd (xi4 53) vx.toNatClampNeg y1) : Nat → Nat → Int32) fun nu6 =>
  nu6
def L_sx_comesFrom6_21_0 (mu : Nat → Nat → Int32) : Nat → (Int32) → Int32
  | 0, v8_21 => 0
  | n + 1, v8_21 =>
    LETV (mu 4 6 : Int32) fun y3 =>
    if v8_21 ≥ y3 then (
      (0 : Int32)
    ) else (
      (0 : Int32)
    )
def F_sx_comesFrom6 (mu : Nat → Nat → Int32) (vx : Int32) (vu : Int32) (vp : Int32) : Int32 :=
  LETV (mu 34 vx.toNatClampNeg : Int32) fun y1 =>
  LETV (F_sx_priceAsked (y1 : Int32) (vp : Int32) : Int32) fun r2 =>
  L_sx_comesFrom6_21_0 mu 10 (0 : Int32)
def L_sx_comesFrom5_21_0 (mu : Nat → Nat → Int32) (r2 : Int32) (vu : Int32) (vx : Int32) : Nat → (Int32) → Int32
  | 0, v8_21 => 0
  | n + 1, v8_21 =>
    LETV (mu 4 6 : Int32) fun y3 =>
    if v8_21 ≥ y3 then (
      (0 : Int32)
    ) else (
      LETV (F_sx_buys mu (vx : Int32) (v8_21 : Int32) (vu : Int32) (r2 : Int32) : Int32) fun r5 =>
      if r5 = (0 : Int32) then (
        LETV ((v8_21 + 1) : Int32) fun w18 =>
        L_sx_comesFrom5_21_0 mu r2 vu vx n (w18 : Int32)
      ) else (
        LETV (mu 32 6 : Int32) fun y7 =>
        if v8_21 = y7 then (
          LETV (F_sx_needFor mu (6 : Int32) (r2 : Int32) : Int32) fun r14 =>
          LETV (mu 32 8 : Int32) fun y15 =>
          if r14 > y15 then (
            LETV ((v8_21 + 1) : Int32) fun w17 =>
            L_sx_comesFrom5_21_0 mu r2 vu vx n (w17 : Int32)
          ) else (
            (1 : Int32)
          )
        ) else (
          LETV (1 <<< (v8_21 &&& 31) : Int32) fun t9 =>
          LETV (vu ||| t9 : Int32) fun t10 =>
          LETV (F_sx_comesFrom6 mu (v8_21 : Int32) (t10 : Int32) (r2 : Int32) : Int32) fun r11 =>
          if r11 = (0 : Int32) then (
            LETV ((v8_21 + 1) : Int32) fun w13 =>
            L_sx_comesFrom5_21_0 mu r2 vu vx n (w13 : Int32)
          ) else (
            (1 : Int32)
          )
        )
      )
    )
def F_sx_comesFrom5 (mu : Nat → Nat → Int32) (vx : Int32) (vu : Int32) (vp : Int32) : Int32 :=
  LETV (mu 34 vx.toNatClampNeg : Int32) fun y1 =>
  LETV (F_sx_priceAsked (y1 : Int32) (vp : Int32) : Int32) fun r2 =>
  L_sx_comesFrom5_21_0 mu r2 vu vx 10 (0 : Int32)
def L_sx_comesFrom4_21_0 (mu : Nat → Nat → Int32) (r2 : Int32) (vu : Int32) (vx : Int32) : Nat → (Int32) → Int32
  | 0, v8_21 => 0
  | n + 1, v8_21 =>
    LETV (mu 4 6 : Int32) fun y3 =>
    if v8_21 ≥ y3 then (
      (0 : Int32)
    ) else (
      LETV (F_sx_buys mu (vx : Int32) (v8_21 : Int32) (vu : Int32) (r2 : Int32) : Int32) fun r5 =>
      if r5 = (0 : Int32) then (
        LETV ((v8_21 + 1) : Int32) fun w18 =>
        L_sx_comesFrom4_21_0 mu r2 vu vx n (w18 : Int32)
      ) else (
        LETV (mu 32 6 : Int32) fun y7 =>
        if v8_21 = y7 then (
          LETV (F_sx_needFor mu (5 : Int32) (r2 : Int32) : Int32) fun r14 =>
          LETV (mu 32 8 : Int32) fun y15 =>
          if r14 > y15 then (
            LETV ((v8_21 + 1) : Int32) fun w17 =>
            L_sx_comesFrom4_21_0 mu r2 vu vx n (w17 : Int32)
          ) else (
            (1 : Int32)
          )
        ) else (
          LETV (1 <<< (v8_21 &&& 31) : Int32) fun t9 =>
          LETV (vu ||| t9 : Int32) fun t10 =>
          LETV (F_sx_comesFrom5 mu (v8_21 : Int32) (t10 : Int32) (r2 : Int32) : Int32) fun r11 =>
          if r11 = (0 : Int32) then (
            LETV ((v8_21 + 1) : Int32) fun w13 =>
            L_sx_comesFrom4_21_0 mu r2 vu vx n (w13 : Int32)
          ) else (
            (1 : Int32)
          )
        )
      )
    )
def F_sx_comesFrom4 (mu : Nat → Nat → Int32) (vx : Int32) (vu : Int32) (vp : Int32) : Int32 :=
  LETV (mu 34 vx.toNatClampNeg : Int32) fun y1 =>
  LETV (F_sx_priceAsked (y1 : Int32) (vp : Int32) : Int32) fun r2 =>
  L_sx_comesFrom4_21_0 mu r2 vu vx 10 (0 : Int32)
def L_sx_comesFrom3_21_0 (mu : Nat → Nat → Int32) (r2 : Int32) (vu : Int32) (vx : Int32) : Nat → (Int32) → Int32
  | 0, v8_21 => 0
  | n + 1, v8_21 =>
    LETV (mu 4 6 : Int32) fun y3 =>
    if v8_21 ≥ y3 then (
      (0 : Int32)
    ) else (
      LETV (F_sx_buys mu (vx : Int32) (v8_21 : Int32) (vu : Int32) (r2 : Int32) : Int32) fun r5 =>
      if r5 = (0 : Int32) then (
        LETV ((v8_21 + 1) : Int32) fun w18 =>
        L_sx_comesFrom3_21_0 mu r2 vu vx n (w18 : Int32)
      ) else (
        LETV (mu 32 6 : Int32) fun y7 =>
        if v8_21 = y7 then (
          LETV (F_sx_needFor mu (4 : Int32) (r2 : Int32) : Int32) fun r14 =>
          LETV (mu 32 8 : Int32) fun y15 =>
          if r14 > y15 then (
            LETV ((v8_21 + 1) : Int32) fun w17 =>
            L_sx_comesFrom3_21_0 mu r2 vu vx n (w17 : Int32)
          ) else (
            (1 : Int32)
          )
        ) else (
          LETV (1 <<< (v8_21 &&& 31) : Int32) fun t9 =>
          LETV (vu ||| t9 : Int32) fun t10 =>
          LETV (F_sx_comesFrom4 mu (v8_21 : Int32) (t10 : Int32) (r2 : Int32) : Int32) fun r11 =>
          if r11 = (0 : Int32) then (
            LETV ((v8_21 + 1) : Int32) fun w13 =>
            L_sx_comesFrom3_21_0 mu r2 vu vx n (w13 : Int32)
          ) else (
            (1 : Int32)
          )
        )
      )
    )
def F_sx_comesFrom3 (mu : Nat → Nat → Int32) (vx : Int32) (vu : Int32) (vp : Int32) : Int32 :=
  LETV (mu 34 vx.toNatClampNeg : Int32) fun y1 =>
  LETV (F_sx_priceAsked (y1 : Int32) (vp : Int32) : Int32) fun r2 =>
  L_sx_comesFrom3_21_0 mu r2 vu vx 10 (0 : Int32)
def L_sx_comesFrom2_21_0 (mu : Nat → Nat → Int32) (r2 : Int32) (vu : Int32) (vx : Int32) : Nat → (Int32) → Int32
  | 0, v8_21 => 0
  | n + 1, v8_21 =>
    LETV (mu 4 6 : Int32) fun y3 =>
    if v8_21 ≥ y3 then (
      (0 : Int32)
    ) else (
      LETV (F_sx_buys mu (vx : Int32) (v8_21 : Int32) (vu : Int32) (r2 : Int32) : Int32) fun r5 =>
      if r5 = (0 : Int32) then (
        LETV ((v8_21 + 1) : Int32) fun w18 =>
        L_sx_comesFrom2_21_0 mu r2 vu vx n (w18 : Int32)
      ) else (
        LETV (mu 32 6 : Int32) fun y7 =>
        if v8_21 = y7 then (
          LETV (F_sx_needFor mu (3 : Int32) (r2 : Int32) : Int32) fun r14 =>
          LETV (mu 32 8 : Int32) fun y15 =>
          if r14 > y15 then (
            LETV ((v8_21 + 1) : Int32) fun w17 =>
            L_sx_comesFrom2_21_0 mu r2 vu vx n (w17 : Int32)
          ) else (
            (1 : Int32)
          )
        ) else (
          LETV (1 <<< (v8_21 &&& 31) : Int32) fun t9 =>
          LETV (vu ||| t9 : Int32) fun t10 =>
          LETV (F_sx_comesFrom3 mu (v8_21 : Int32) (t10 : Int32) (r2 : Int32) : Int32) fun r11 =>
          if r11 = (0 : Int32) then (
            LETV ((v8_21 + 1) : Int32) fun w13 =>
            L_sx_comesFrom2_21_0 mu r2 vu vx n (w13 : Int32)
          ) else (
            (1 : Int32)
          )
        )
      )
    )
def F_sx_comesFrom2 (mu : Nat → Nat → Int32) (vx : Int32) (vu : Int32) (vp : Int32) : Int32 :=
  LETV (mu 34 vx.toNatClampNeg : Int32) fun y1 =>
  LETV (F_sx_priceAsked (y1 : Int32) (vp : Int32) : Int32) fun r2 =>
  L_sx_comesFrom2_21_0 mu r2 vu vx 10 (0 : Int32)
def L_sx_comesFrom1_21_0 (mu : Nat → Nat → Int32) (r2 : Int32) (vu : Int32) (vx : Int32) : Nat → (Int32) → Int32
  | 0, v8_21 => 0
  | n + 1, v8_21 =>
    LETV (mu 4 6 : Int32) fun y3 =>
    if v8_21 ≥ y3 then (
      (0 : Int32)
    ) else (
      LETV (F_sx_buys mu (vx : Int32) (v8_21 : Int32) (vu : Int32) (r2 : Int32) : Int32) fun r5 =>
      if r5 = (0 : Int32) then (
        LETV ((v8_21 + 1) : Int32) fun w18 =>
        L_sx_comesFrom1_21_0 mu r2 vu vx n (w18 : Int32)
      ) else (
        LETV (mu 32 6 : Int32) fun y7 =>
        if v8_21 = y7 then (
          LETV (F_sx_needFor mu (2 : Int32) (r2 : Int32) : Int32) fun r14 =>
          LETV (mu 32 8 : Int32) fun y15 =>
          if r14 > y15 then (
            LETV ((v8_21 + 1) : Int32) fun w17 =>
            L_sx_comesFrom1_21_0 mu r2 vu vx n (w17 : Int32)
          ) else (
            (1 : Int32)
          )
        ) else (
          LETV (1 <<< (v8_21 &&& 31) : Int32) fun t9 =>
          LETV (vu ||| t9 : Int32) fun t10 =>
          LETV (F_sx_comesFrom2 mu (v8_21 : Int32) (t10 : Int32) (r2 : Int32) : Int32) fun r11 =>
          if r11 = (0 : Int32) then (
            LETV ((v8_21 + 1) : Int32) fun w13 =>
            L_sx_comesFrom1_21_0 mu r2 vu vx n (w13 : Int32)
          ) else (
            (1 : Int32)
          )
        )
      )
    )
def F_sx_comesFrom1 (mu : Nat → Nat → Int32) (vx : Int32) (vu : Int32) (vp : Int32) : Int32 :=
  LETV (mu 34 vx.toNatClampNeg : Int32) fun y1 =>
  LETV (F_sx_priceAsked (y1 : Int32) (vp : Int32) : Int32) fun r2 =>
  L_sx_comesFrom1_21_0 mu r2 vu vx 10 (0 : Int32)
def L_sx_comesFrom0_21_0 (mu : Nat → Nat → Int32) (r2 : Int32) (vu : Int32) (vx : Int32) : Nat → (Int32) → Int32
  | 0, v8_21 => 0
  | n + 1, v8_21 =>
    LETV (mu 4 6 : Int32) fun y3 =>
    if v8_21 ≥ y3 then (
      (0 : Int32)
    ) else (
      LETV (F_sx_buys mu (vx : Int32) (v8_21 : Int32) (vu : Int32) (r2 : Int32) : Int32) fun r5 =>
      if r5 = (0 : Int32) then (
        LETV ((v8_21 + 1) : Int32) fun w18 =>
        L_sx_comesFrom0_21_0 mu r2 vu vx n (w18 : Int32)
      ) else (
        LETV (mu 32 6 : Int32) fun y7 =>
        if v8_21 = y7 then (
          LETV (F_sx_needFor mu (1 : Int32) (r2 : Int32) : Int32) fun r14 =>
          LETV (mu 32 8 : Int32) fun y15 =>
          if r14 > y15 then (
            LETV ((v8_21 + 1) : Int32) fun w17 =>
            L_sx_comesFrom0_21_0 mu r2 vu vx n (w17 : Int32)
          ) else (
            (1 : Int32)
          )
        ) else (
          LETV (1 <<< (v8_21 &&& 31) : Int32) fun t9 =>
          LETV (vu ||| t9 : Int32) fun t10 =>
          LETV (F_sx_comesFrom1 mu (v8_21 : Int32) (t10 : Int32) (r2 : Int32) : Int32) fun r11 =>
          if r11 = (0 : Int32) then (
            LETV ((v8_21 + 1) : Int32) fun w13 =>
            L_sx_comesFrom0_21_0 mu r2 vu vx n (w13 : Int32)
          ) else (
            (1 : Int32)
          )
        )
      )
    )
def F_sx_comesFrom0 (mu : Nat → Nat → Int32) (vx : Int32) (vu : Int32) (vp : Int32) : Int32 :=
  LETV (mu 34 vx.toNatClampNeg : Int32) fun y1 =>
  LETV (F_sx_priceAsked (y1 : Int32) (vp : Int32) : Int32) fun r2 =>
  L_sx_comesFrom0_21_0 mu r2 vu vx 10 (0 : Int32)
def F_sx_comesUnder (mu : Nat → Nat → Int32) (vs : Int32) : Int32 × (Nat → Nat → Int32) :=
  LETV (mu 5 2 : Int32) fun y1 =>
  LETV (y1 ||| vs : Int32) fun t2 =>
  LETV (F_sx_linkUnder mu (t2 : Int32) : Nat → Nat → Int32) fun xi3 =>
  LETV (xi3 32 5 : Int32) fun y5 =>
  LETV (1 <<< (y5 &&& 31) : Int32) fun t6 =>
  LETV (xi3 32 7 : Int32) fun y7 =>
  LETV (F_sx_comesFrom0 xi3 (y5 : Int32) (t6 : Int32) (y7 : Int32) : Int32) fun r8 =>
  ((r8 : Int32), xi3)
def L_sx_isLinked_18_1 (mu : Nat → Nat → Int32) (v3_9 : Int32) (y1 : Int32) (k_sx_isLinked_9_0 : (Int32) → (Int32) → (Int32)) : Nat → (Int32) → (Int32) → Int32
  | 0, v2_18, v4_18 => 0
  | n + 1, v2_18, v4_18 =>
    LETV (mu 4 6 : Int32) fun y6 =>
    if v4_18 ≥ y6 then (
      LETV ((v3_9 + 1) : Int32) fun w8 =>
      k_sx_isLinked_9_0 (v2_18 : Int32) (w8 : Int32)
    ) else (
      LETV (F_sx_hasBit (v2_18 : Int32) (v4_18 : Int32) : Int32) fun r9 =>
      if r9 = (0 : Int32) then (
        LETV ((v4_18 + 1) : Int32) fun w11 =>
        L_sx_isLinked_18_1 mu v3_9 y1 k_sx_isLinked_9_0 n (v2_18 : Int32) (w11 : Int32)
      ) else (
        if v4_18 = y1 then (
          LETV (mu 52 v4_18.toNatClampNeg : Int32) fun y13 =>
          LETV (v2_18 ||| y13 : Int32) fun t14 =>
          LETV ((v4_18 + 1) : Int32) fun w15 =>
          L_sx_isLinked_18_1 mu v3_9 y1 k_sx_isLinked_9_0 n (t14 : Int32) (w15 : Int32)
        ) else (
          LETV (mu 34 v4_18.toNatClampNeg : Int32) fun y16 =>
          if y16 = (3 : Int32) then (
            LETV ((v4_18 + 1) : Int32) fun w18 =>
            L_sx_isLinked_18_1 mu v3_9 y1 k_sx_isLinked_9_0 n (v2_18 : Int32) (w18 : Int32)
          ) else (
            LETV (mu 52 v4_18.toNatClampNeg : Int32) fun y19 =>
            LETV (v2_18 ||| y19 : Int32) fun t20 =>
            LETV ((v4_18 + 1) : Int32) fun w21 =>
            L_sx_isLinked_18_1 mu v3_9 y1 k_sx_isLinked_9_0 n (t20 : Int32) (w21 : Int32)
          )
        )
      )
    )
def L_sx_isLinked_9_0 (mu : Nat → Nat → Int32) (y1 : Int32) : Nat → (Int32) → (Int32) → Int32
  | 0, v2_9, v3_9 => 0
  | n + 1, v2_9, v3_9 =>
    if v3_9 ≥ (7 : Int32) then (
      LETV (mu 32 6 : Int32) fun y4 =>
      LETV (F_sx_hasBit (v2_9 : Int32) (y4 : Int32) : Int32) fun r5 =>
      (r5 : Int32)
    ) else (
      L_sx_isLinked_18_1 mu v3_9 y1 (fun z_v2_9 z_v3_9 => L_sx_isLinked_9_0 mu y1 n z_v2_9 z_v3_9) 10 (v2_9 : Int32) (0 : Int32)
    )
def F_sx_isLinked (mu : Nat → Nat → Int32) : Int32 :=
  LETV (mu 32 5 : Int32) fun y1 =>
  LETV (1 <<< (y1 &&& 31) : Int32) fun t2 =>
  L_sx_isLinked_9_0 mu y1 10 (t2 : Int32) (0 : Int32)
def L_sx_leastBlock_2_0 (vf : Int32) (vo : Int32) : Nat → (Int32) → (Nat → Nat → Int32) → Int32 × (Nat → Nat → Int32)
  | 0, v3_2, nu2_ => (0, nu2_)
  | n + 1, v3_2, nu2_ =>
    LETV (nu2_ 4 7 : Int32) fun y1 =>
    LETV (1 <<< (y1 &&& 31) : Int32) fun t2 =>
    if v3_2 ≥ t2 then (
      (((-9) : Int32), nu2_)
    ) else (
      LETV (vo ^^^ (-1) : Int32) fun t4 =>
      LETV (v3_2 &&& t4 : Int32) fun t5 =>
      if t5 = (0 : Int32) then (
        LETV (F_sx_bitCount (v3_2 : Int32) : Int32) fun r8 =>
        if r8 = vf then (
          LETP (F_sx_comesUnder nu2_ (v3_2 : Int32)) fun r11 xi11 =>
          if r11 = (0 : Int32) then (
            ((v3_2 : Int32), xi11)
          ) else (
            LETV ((v3_2 + 1) : Int32) fun w14 =>
            L_sx_leastBlock_2_0 vf vo n (w14 : Int32) xi11
          )
        ) else (
          LETV ((v3_2 + 1) : Int32) fun w10 =>
          L_sx_leastBlock_2_0 vf vo n (w10 : Int32) nu2_
        )
      ) else (
        LETV ((v3_2 + 1) : Int32) fun w7 =>
        L_sx_leastBlock_2_0 vf vo n (w7 : Int32) nu2_
      )
    )
def F_sx_leastBlock (mu : Nat → Nat → Int32) (vo : Int32) (vf : Int32) : Int32 × (Nat → Nat → Int32) :=
  L_sx_leastBlock_2_0 vf vo 4099 (0 : Int32) mu
