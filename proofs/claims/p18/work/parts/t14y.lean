def F_qm_bearer (mu : Nat → Nat → Int32) (vx : Int32) (vw : Int32) : Int32 × (Nat → Nat → Int32) :=
  if F_sm_isOne mu (vx : Int32) = 1 then (
    if F_sm_in (vw : Int32) (0 : Int32) (3 : Int32) = 1 then (
      LETV (F_sm_bearerOf mu (vx : Int32) (vw : Int32) : Int32) fun r3 =>
      LETP (F_sm_ask mu (r3 : Int32) (1 : Int32)) fun r4 xi4 =>
      ((r4 : Int32), xi4)
    ) else (
      (((-1) : Int32), mu)
    )
  ) else (
    (((-1) : Int32), mu)
  )
def L_sm_friendsBeside_4_0 (mu : Nat → Nat → Int32) (vx : Int32) : Nat → (Int32) → (Int32) → Int32
  | 0, v2_4, v3_4 => 0
  | n + 1, v2_4, v3_4 =>
    LETV (mu 0 8 : Int32) fun y1 =>
    if v3_4 ≥ y1 then (
      (v2_4 : Int32)
    ) else (
      LETV (F_sm_besideOf mu (vx : Int32) : Int32) fun r3 =>
      if F_sm_has (r3 : Int32) (v3_4 : Int32) = 1 then (
        LETV (F_sm_isA mu (v3_4 : Int32) (2 : Int32) : Int32) fun r5 =>
        if r5 = (0 : Int32) then (
          LETV (v2_4 + 0 : Int32) fun t7 =>
          LETV ((v3_4 + 1) : Int32) fun w8 =>
          L_sm_friendsBeside_4_0 mu vx n (t7 : Int32) (w8 : Int32)
        ) else (
          LETV (v2_4 + 1 : Int32) fun t9 =>
          LETV ((v3_4 + 1) : Int32) fun w10 =>
          L_sm_friendsBeside_4_0 mu vx n (t9 : Int32) (w10 : Int32)
        )
      ) else (
        LETV (v2_4 + 0 : Int32) fun t11 =>
        LETV ((v3_4 + 1) : Int32) fun w12 =>
        L_sm_friendsBeside_4_0 mu vx n (t11 : Int32) (w12 : Int32)
      )
    )
def F_sm_friendsBeside (mu : Nat → Nat → Int32) (vx : Int32) : Int32 :=
  L_sm_friendsBeside_4_0 mu vx 10 (0 : Int32) (0 : Int32)
def L_qm_mark_42_0 (vd : Int32) (vx : Int32) : Nat → (Int32) → (Int32) → (Int32) → (Nat → Nat → Int32) → Int32 × (Nat → Nat → Int32)
  | 0, v3_42, v4_42, v5_42, nu42_ => (0, nu42_)
  | n + 1, v3_42, v4_42, v5_42, nu42_ =>
    LETV (nu42_ 0 15 : Int32) fun y5 =>
    if v5_42 ≥ y5 then (
      if (vd).toInt < 1 ∨ 4 < (vd).toInt then (
        ((v4_42 : Int32), nu42_)
      ) else (
        if (vd).toInt = 1 then (
          LETV (F_sm_asksOf nu42_ (vx : Int32) (0 : Int32) : Int32) fun r8 =>
          LETV (r8 - 1 : Int32) fun t9 =>
          ((t9 : Int32), nu42_)
        ) else (
          if (vd).toInt = 2 then (
            LETV (F_sm_friendsBeside nu42_ (vx : Int32) : Int32) fun r10 =>
            ((r10 : Int32), nu42_)
          ) else (
            if (vd).toInt = 3 then (
              ((v3_42 : Int32), nu42_)
            ) else (
              LETV (F_sm_asksOf nu42_ (vx : Int32) (10 : Int32) : Int32) fun r11 =>
              ((r11 : Int32), nu42_)
            )
          )
        )
      )
    ) else (
      LETV (F_sm_letterOf nu42_ (v5_42 : Int32) (1 : Int32) : Int32) fun r12 =>
      if r12 = vx then (
        LETV (F_sm_isRead nu42_ (v5_42 : Int32) : Int32) fun r26 =>
        if r26 = (0 : Int32) then (
          LETV (v3_42 + 1 : Int32) fun t40 =>
          LETV (F_sm_letterOf5 nu42_ (v5_42 : Int32) : Int32) fun r41 =>
          if r41 = vx then (
            LETV (F_sm_isRead nu42_ (v5_42 : Int32) : Int32) fun r45 =>
            if r45 = (0 : Int32) then (
              LETV (F_sm_letterOf nu42_ (v5_42 : Int32) (6 : Int32) : Int32) fun r49 =>
              LETV (v4_42 + r49 : Int32) fun t50 =>
              LETV ((v5_42 + 1) : Int32) fun w51 =>
              L_qm_mark_42_0 vd vx n (t40 : Int32) (t50 : Int32) (w51 : Int32) nu42_
            ) else (
              LETV (v4_42 + 0 : Int32) fun t47 =>
              LETV ((v5_42 + 1) : Int32) fun w48 =>
              L_qm_mark_42_0 vd vx n (t40 : Int32) (t47 : Int32) (w48 : Int32) nu42_
            )
          ) else (
            LETV (v4_42 + 0 : Int32) fun t43 =>
            LETV ((v5_42 + 1) : Int32) fun w44 =>
            L_qm_mark_42_0 vd vx n (t40 : Int32) (t43 : Int32) (w44 : Int32) nu42_
          )
        ) else (
          LETV (v3_42 + 0 : Int32) fun t28 =>
          LETV (F_sm_letterOf5 nu42_ (v5_42 : Int32) : Int32) fun r29 =>
          if r29 = vx then (
            LETV (F_sm_isRead nu42_ (v5_42 : Int32) : Int32) fun r33 =>
            if r33 = (0 : Int32) then (
              LETV (F_sm_letterOf nu42_ (v5_42 : Int32) (6 : Int32) : Int32) fun r37 =>
              LETV (v4_42 + r37 : Int32) fun t38 =>
              LETV ((v5_42 + 1) : Int32) fun w39 =>
              L_qm_mark_42_0 vd vx n (t28 : Int32) (t38 : Int32) (w39 : Int32) nu42_
            ) else (
              LETV (v4_42 + 0 : Int32) fun t35 =>
              LETV ((v5_42 + 1) : Int32) fun w36 =>
              L_qm_mark_42_0 vd vx n (t28 : Int32) (t35 : Int32) (w36 : Int32) nu42_
            )
          ) else (
            LETV (v4_42 + 0 : Int32) fun t31 =>
            LETV ((v5_42 + 1) : Int32) fun w32 =>
            L_qm_mark_42_0 vd vx n (t28 : Int32) (t31 : Int32) (w32 : Int32) nu42_
          )
        )
      ) else (
        LETV (v3_42 + 0 : Int32) fun t14 =>
        LETV (F_sm_letterOf5 nu42_ (v5_42 : Int32) : Int32) fun r15 =>
        if r15 = vx then (
          LETV (F_sm_isRead nu42_ (v5_42 : Int32) : Int32) fun r19 =>
          if r19 = (0 : Int32) then (
            LETV (F_sm_letterOf nu42_ (v5_42 : Int32) (6 : Int32) : Int32) fun r23 =>
            LETV (v4_42 + r23 : Int32) fun t24 =>
            LETV ((v5_42 + 1) : Int32) fun w25 =>
            L_qm_mark_42_0 vd vx n (t14 : Int32) (t24 : Int32) (w25 : Int32) nu42_
          ) else (
            LETV (v4_42 + 0 : Int32) fun t21 =>
            LETV ((v5_42 + 1) : Int32) fun w22 =>
            L_qm_mark_42_0 vd vx n (t14 : Int32) (t21 : Int32) (w22 : Int32) nu42_
          )
        ) else (
          LETV (v4_42 + 0 : Int32) fun t17 =>
          LETV ((v5_42 + 1) : Int32) fun w18 =>
          L_qm_mark_42_0 vd vx n (t14 : Int32) (t17 : Int32) (w18 : Int32) nu42_
        )
      )
    )
def F_qm_mark (mu : Nat → Nat → Int32) (vx : Int32) (vd : Int32) : Int32 × (Nat → Nat → Int32) :=
  if F_sm_isOne mu (vx : Int32) = 1 then (
    if F_sm_in (vd : Int32) (1 : Int32) (5 : Int32) = 1 then (
      LETV (F_sm_isA mu (vx : Int32) (vd : Int32) : Int32) fun r3 =>
      if r3 = (0 : Int32) then (
        LETP (F_sm_meet mu (3 : Int32)) fun r52 xi52 =>
        ((r52 : Int32), xi52)
      ) else (
        L_qm_mark_42_0 vd vx 7 (0 : Int32) (0 : Int32) (0 : Int32) mu
      )
    ) else (
      (((-1) : Int32), mu)
    )
  ) else (
    (((-1) : Int32), mu)
  )
def F_qm_purse (mu : Nat → Nat → Int32) (vx : Int32) (vv : Int32) : Int32 × (Nat → Nat → Int32) :=
  if F_sm_isOne mu (vx : Int32) = 1 then (
    if F_sm_in (vv : Int32) (0 : Int32) (999 : Int32) = 1 then (
      LETV (mu 8 vx.toNatClampNeg : Int32) fun y3 =>
      LETV (va_up mu 8 (upd (mu 8) vx.toNatClampNeg vv) : Nat → Nat → Int32) fun nu4 =>
      ((y3 : Int32), nu4)
    ) else (
      (((-1) : Int32), mu)
    )
  ) else (
    (((-1) : Int32), mu)
  )
def F_qm_snow (mu : Nat → Nat → Int32) (vi : Int32) (vs : Int32) : Int32 × (Nat → Nat → Int32) :=
  LETV (mu 0 11 : Int32) fun y1 =>
  LETV (y1 - 1 : Int32) fun t2 =>
  if F_sm_in (vi : Int32) (0 : Int32) (t2 : Int32) = 1 then (
    if F_sm_in (vs : Int32) (0 : Int32) (1 : Int32) = 1 then (
      LETV (mu 0 13 : Int32) fun y5 =>
      LETV (y5 >>> (vi &&& 31) : Int32) fun t6 =>
      LETV (t6 &&& 1 : Int32) fun t7 =>
      if vs = (1 : Int32) then (
        LETV (1 <<< (vi &&& 31) : Int32) fun t16 =>
        LETV (y5 ||| t16 : Int32) fun t17 =>
        LETV (va_up mu 0 (upd (mu 0) 13 t17) : Nat → Nat → Int32) fun nu18 =>
        ((t7 : Int32), nu18)
      ) else (
        LETV (1 <<< (vi &&& 31) : Int32) fun t9 =>
        LETV (t9 ^^^ (-1) : Int32) fun t10 =>
        LETV (y5 &&& t10 : Int32) fun t11 =>
        LETV (va_up mu 0 (upd (mu 0) 13 t11) : Nat → Nat → Int32) fun nu12 =>
        ((t7 : Int32), nu12)
      )
    ) else (
      (((-1) : Int32), mu)
    )
  ) else (
    (((-1) : Int32), mu)
  )
def F_qm_asks (mu : Nat → Nat → Int32) (vx : Int32) (vp : Int32) : Int32 × (Nat → Nat → Int32) :=
  if F_sm_isOne mu (vx : Int32) = 1 then (
    if F_sm_in (vp : Int32) (0 : Int32) (999 : Int32) = 1 then (
      LETV (F_sm_asksOf mu (vx : Int32) (vp : Int32) : Int32) fun r3 =>
      ((r3 : Int32), mu)
    ) else (
      (((-1) : Int32), mu)
    )
  ) else (
    (((-1) : Int32), mu)
  )
def F_qm_beside (mu : Nat → Nat → Int32) (vx : Int32) : Int32 × (Nat → Nat → Int32) :=
  if F_sm_isOne mu (vx : Int32) = 1 then (
    LETV (F_sm_besideOf mu (vx : Int32) : Int32) fun r2 =>
    ((r2 : Int32), mu)
  ) else (
    (((-1) : Int32), mu)
  )
def F_qm_send (mu : Nat → Nat → Int32) (vx : Int32) (vy : Int32) (vw : Int32) (vf : Int32) : Int32 × (Nat → Nat → Int32) :=
  if F_sm_areTwo mu (vx : Int32) (vy : Int32) = 1 then (
    if F_sm_in (vw : Int32) (0 : Int32) (99 : Int32) = 1 then (
      if F_sm_in (vf : Int32) (0 : Int32) (9 : Int32) = 1 then (
        LETV (mu 0 15 : Int32) fun y4 =>
        if y4 = (4 : Int32) then (
          (((-2) : Int32), mu)
        ) else (
          LETV (y4 + 1 : Int32) fun t6 =>
          LETV (va_up mu 0 (upd (mu 0) 15 t6) : Nat → Nat → Int32) fun nu7 =>
          LETV (F_sm_setLetter0 nu7 (y4 : Int32) (vx : Int32) : Nat → Nat → Int32) fun xi10 =>
          LETV (F_sm_setLetter1 xi10 (y4 : Int32) (vy : Int32) : Nat → Nat → Int32) fun xi12 =>
          LETV (F_sm_setLetter2 xi12 (y4 : Int32) (vw : Int32) : Nat → Nat → Int32) fun xi14 =>
          LETV (F_sm_setLetter3 xi14 (y4 : Int32) (vf : Int32) : Nat → Nat → Int32) fun xi16 =>
          LETV (xi16 0 14 : Int32) fun y18 =>
          LETV (F_sm_setLetter4 xi16 (y4 : Int32) (y18 : Int32) : Nat → Nat → Int32) fun xi19 =>
          LETV (F_sm_setLetter5 xi19 (y4 : Int32) (vx : Int32) : Nat → Nat → Int32) fun xi21 =>
          LETV (F_sm_setLetter6 xi21 (y4 : Int32) (0 : Int32) : Nat → Nat → Int32) fun xi23 =>
          LETV (F_sm_setLetter7 xi23 (y4 : Int32) (0 : Int32) : Nat → Nat → Int32) fun xi25 =>
          LETV (F_sm_setLetter8 xi25 (y4 : Int32) ((-9) : Int32) : Nat → Nat → Int32) fun xi27 =>
          LETV (F_sm_setLetter9 xi27 (y4 : Int32) (0 : Int32) : Nat → Nat → Int32) fun xi29 =>
          ((y4 : Int32), xi29)
        )
      ) else (
        (((-1) : Int32), mu)
      )
    ) else (
      (((-1) : Int32), mu)
    )
  ) else (
    (((-1) : Int32), mu)
  )
def F_sm_priceOf (mu : Nat → Nat → Int32) (vk : Int32) : Int32 :=
  LETV (F_sm_letterOf5 mu (vk : Int32) : Int32) fun r1 =>
  LETV (F_sm_letterOf mu (vk : Int32) (6 : Int32) : Int32) fun r2 =>
  LETV (F_sm_asksOf mu (r1 : Int32) (r2 : Int32) : Int32) fun r3 =>
  (r3 : Int32)
def L_sm_canSell_47_0 (mu : Nat → Nat → Int32) (r7 : Int32) (r8 : Int32) (vk : Int32) : Nat → (Int32) → (Int32) → Int32
  | 0, v4_47, v5_47 => 0
  | n + 1, v4_47, v5_47 =>
    LETV (mu 0 8 : Int32) fun y9 =>
    if v5_47 ≥ y9 then (
      (v4_47 : Int32)
    ) else (
      LETV (F_sm_letterOf mu (vk : Int32) (1 : Int32) : Int32) fun r11 =>
      if v5_47 = r11 then (
        LETV (F_sm_worthIn mu (vk : Int32) (0 : Int32) : Int32) fun r30 =>
        if r30 < r8 then (
          if F_sm_has (r7 : Int32) (v5_47 : Int32) = 1 then (
            LETV (v4_47 ||| 0 : Int32) fun t33 =>
            LETV ((v5_47 + 1) : Int32) fun w34 =>
            L_sm_canSell_47_0 mu r7 r8 vk n (t33 : Int32) (w34 : Int32)
          ) else (
            LETV (v4_47 ||| 0 : Int32) fun t35 =>
            LETV ((v5_47 + 1) : Int32) fun w36 =>
            L_sm_canSell_47_0 mu r7 r8 vk n (t35 : Int32) (w36 : Int32)
          )
        ) else (
          if F_sm_has (r7 : Int32) (v5_47 : Int32) = 1 then (
            LETV (mu 8 v5_47.toNatClampNeg : Int32) fun y38 =>
            if y38 < r8 then (
              LETV (v4_47 ||| 0 : Int32) fun t40 =>
              LETV ((v5_47 + 1) : Int32) fun w41 =>
              L_sm_canSell_47_0 mu r7 r8 vk n (t40 : Int32) (w41 : Int32)
            ) else (
              LETV (1 <<< (v5_47 &&& 31) : Int32) fun t42 =>
              LETV (v4_47 ||| t42 : Int32) fun t43 =>
              LETV ((v5_47 + 1) : Int32) fun w44 =>
              L_sm_canSell_47_0 mu r7 r8 vk n (t43 : Int32) (w44 : Int32)
            )
          ) else (
            LETV (v4_47 ||| 0 : Int32) fun t45 =>
            LETV ((v5_47 + 1) : Int32) fun w46 =>
            L_sm_canSell_47_0 mu r7 r8 vk n (t45 : Int32) (w46 : Int32)
          )
        )
      ) else (
        LETV (mu 7 v5_47.toNatClampNeg : Int32) fun y13 =>
        if y13 = (3 : Int32) then (
          if F_sm_has (r7 : Int32) (v5_47 : Int32) = 1 then (
            LETV (v4_47 ||| 0 : Int32) fun t16 =>
            LETV ((v5_47 + 1) : Int32) fun w17 =>
            L_sm_canSell_47_0 mu r7 r8 vk n (t16 : Int32) (w17 : Int32)
          ) else (
            LETV (v4_47 ||| 0 : Int32) fun t18 =>
            LETV ((v5_47 + 1) : Int32) fun w19 =>
            L_sm_canSell_47_0 mu r7 r8 vk n (t18 : Int32) (w19 : Int32)
          )
        ) else (
          if F_sm_has (r7 : Int32) (v5_47 : Int32) = 1 then (
            LETV (mu 8 v5_47.toNatClampNeg : Int32) fun y21 =>
            if y21 < r8 then (
              LETV (v4_47 ||| 0 : Int32) fun t23 =>
              LETV ((v5_47 + 1) : Int32) fun w24 =>
              L_sm_canSell_47_0 mu r7 r8 vk n (t23 : Int32) (w24 : Int32)
            ) else (
              LETV (1 <<< (v5_47 &&& 31) : Int32) fun t25 =>
              LETV (v4_47 ||| t25 : Int32) fun t26 =>
              LETV ((v5_47 + 1) : Int32) fun w27 =>
              L_sm_canSell_47_0 mu r7 r8 vk n (t26 : Int32) (w27 : Int32)
            )
          ) else (
            LETV (v4_47 ||| 0 : Int32) fun t28 =>
            LETV ((v5_47 + 1) : Int32) fun w29 =>
            L_sm_canSell_47_0 mu r7 r8 vk n (t28 : Int32) (w29 : Int32)
          )
        )
      )
    )
def F_sm_canSell (mu : Nat → Nat → Int32) (vk : Int32) : Int32 :=
  LETV (F_sm_isRead mu (vk : Int32) : Int32) fun r1 =>
  if r1 = (0 : Int32) then (
    LETV (F_sm_letterOf mu (vk : Int32) (8 : Int32) : Int32) fun r3 =>
    LETV (mu 0 14 : Int32) fun y4 =>
    if r3 = y4 then (
      (0 : Int32)
    ) else (
      LETV (F_sm_letterOf5 mu (vk : Int32) : Int32) fun r6 =>
      LETV (F_sm_besideOf mu (r6 : Int32) : Int32) fun r7 =>
      LETV (F_sm_priceOf mu (vk : Int32) : Int32) fun r8 =>
      L_sm_canSell_47_0 mu r7 r8 vk 10 (0 : Int32) (0 : Int32)
    )
  ) else (
    (0 : Int32)
  )
