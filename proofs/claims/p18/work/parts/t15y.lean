def L_sm_sellTo_83_0 (r3 : Int32) (r4 : Int32) (t2 : Int32) (vk : Int32) (vx : Int32) (y1 : Int32) : Nat → (Int32) → (Nat → Nat → Int32) → Nat → Nat → Int32
  | 0, v6_83, nu83_ => nu83_
  | n + 1, v6_83, nu83_ =>
    if v6_83 ≥ (7 : Int32) then (
      LETV (y1 + 1 : Int32) fun t32 =>
      LETV (va_up nu83_ 0 (upd (nu83_ 0) 17 t32) : Nat → Nat → Int32) fun nu33 =>
      LETV (nu33 8 vx.toNatClampNeg : Int32) fun y36 =>
      LETV (y36 - r4 : Int32) fun t37 =>
      LETV (va_up nu33 8 (upd (nu33 8) vx.toNatClampNeg t37) : Nat → Nat → Int32) fun nu38 =>
      LETV (nu38 8 r3.toNatClampNeg : Int32) fun y41 =>
      LETV (y41 + r4 : Int32) fun t42 =>
      LETV (va_up nu38 8 (upd (nu38 8) r3.toNatClampNeg t42) : Nat → Nat → Int32) fun nu43 =>
      LETV (F_sm_setLetter5 nu43 (vk : Int32) (vx : Int32) : Nat → Nat → Int32) fun xi46 =>
      LETV (F_sm_setLetter6 xi46 (vk : Int32) (r4 : Int32) : Nat → Nat → Int32) fun xi48 =>
      LETV (F_sm_letterOf xi48 (vk : Int32) (7 : Int32) : Int32) fun r50 =>
      LETV (r50 + 1 : Int32) fun t51 =>
      LETV (F_sm_setLetter7 xi48 (vk : Int32) (t51 : Int32) : Nat → Nat → Int32) fun xi52 =>
      LETV (xi52 0 14 : Int32) fun y54 =>
      LETV (F_sm_setLetter8 xi52 (vk : Int32) (y54 : Int32) : Nat → Nat → Int32) fun xi55 =>
      LETV (F_sm_letterOf xi55 (vk : Int32) (1 : Int32) : Int32) fun r57 =>
      if vx = r57 then (
        LETV (F_sm_setLetter9 xi55 (vk : Int32) (1 : Int32) : Nat → Nat → Int32) fun xi61 =>
        xi61
      ) else (
        LETV (F_sm_setLetter9 xi55 (vk : Int32) (0 : Int32) : Nat → Nat → Int32) fun xi59 =>
        xi59
      )
    ) else (
      LETV (t2 + 5 : Int32) fun t63 =>
      LETV (t63 + v6_83 : Int32) fun t64 =>
      LETV (nu83_ 8 v6_83.toNatClampNeg : Int32) fun y65 =>
      LETV (va_up nu83_ 14 (upd (nu83_ 14) t64.toNatClampNeg y65) : Nat → Nat → Int32) fun nu67 =>
      LETV ((v6_83 + 1) : Int32) fun w71 =>
      L_sm_sellTo_83_0 r3 r4 t2 vk vx y1 n (w71 : Int32) nu67
    )
def F_sm_sellTo (mu : Nat → Nat → Int32) (vk : Int32) (vx : Int32) : Nat → Nat → Int32 :=
  LETV (mu 0 17 : Int32) fun y1 =>
  LETV (12 * y1 : Int32) fun t2 =>
  LETV (F_sm_letterOf5 mu (vk : Int32) : Int32) fun r3 =>
  LETV (F_sm_priceOf mu (vk : Int32) : Int32) fun r4 =>
  LETV (va_up mu 14 (upd (mu 14) t2.toNatClampNeg vk) : Nat → Nat → Int32) fun nu6 =>
  LETV (t2 + 1 : Int32) fun t9 =>
  LETV (va_up nu6 14 (upd (nu6 14) t9.toNatClampNeg r3) : Nat → Nat → Int32) fun nu11 =>
  LETV (t2 + 2 : Int32) fun t14 =>
  LETV (F_sm_letterOf nu11 (vk : Int32) (6 : Int32) : Int32) fun r15 =>
  LETV (va_up nu11 14 (upd (nu11 14) t14.toNatClampNeg r15) : Nat → Nat → Int32) fun nu17 =>
  LETV (t2 + 3 : Int32) fun t20 =>
  LETV (F_sm_letterOf nu17 (vk : Int32) (8 : Int32) : Int32) fun r21 =>
  LETV (va_up nu17 14 (upd (nu17 14) t20.toNatClampNeg r21) : Nat → Nat → Int32) fun nu23 =>
  LETV (t2 + 4 : Int32) fun t26 =>
  LETV (va_up nu23 14 (upd (nu23 14) t26.toNatClampNeg r4) : Nat → Nat → Int32) fun nu28 =>
  L_sm_sellTo_83_0 r3 r4 t2 vk vx y1 10 (0 : Int32) nu28
def F_sm_askedLetter (mu : Nat → Nat → Int32) (vk : Int32) : Int32 × (Nat → Nat → Int32) :=
  if vk ≥ (0 : Int32) then (
    LETV (mu 0 15 : Int32) fun y2 =>
    if vk < y2 then (
      ((0 : Int32), mu)
    ) else (
      LETP (F_sm_meet mu (2 : Int32)) fun r5 xi5 =>
      ((r5 : Int32), xi5)
    )
  ) else (
    (((-1) : Int32), mu)
  )
def F_qm_sell (mu : Nat → Nat → Int32) (vk : Int32) (vx : Int32) : Int32 × (Nat → Nat → Int32) :=
  if vk < (0 : Int32) then (
    (((-1) : Int32), mu)
  ) else (
    if F_sm_isOne mu (vx : Int32) = 1 then (
      LETP (F_sm_askedLetter mu (vk : Int32)) fun r3 xi3 =>
      if r3 = 0 then (
        LETV (F_sm_canSell mu (vk : Int32) : Int32) fun r5 =>
        if F_sm_has (r5 : Int32) (vx : Int32) = 1 then (
          LETV (mu 0 17 : Int32) fun y7 =>
          if y7 = (40 : Int32) then (
            (((-2) : Int32), mu)
          ) else (
            LETV (F_sm_priceOf mu (vk : Int32) : Int32) fun r9 =>
            LETV (F_sm_sellTo mu (vk : Int32) (vx : Int32) : Nat → Nat → Int32) fun xi11 =>
            LETV (F_sm_isRead xi11 (vk : Int32) : Int32) fun r13 =>
            if r13 = (0 : Int32) then (
              LETV (r9 + 0 : Int32) fun t15 =>
              ((t15 : Int32), xi11)
            ) else (
              LETV (r9 + 1000 : Int32) fun t16 =>
              ((t16 : Int32), xi11)
            )
          )
        ) else (
          (((-4) : Int32), mu)
        )
      ) else (
        ((r3 : Int32), xi3)
      )
    ) else (
      (((-1) : Int32), mu)
    )
  )
def F_qm_days (mu : Nat → Nat → Int32) (vn : Int32) : Int32 × (Nat → Nat → Int32) :=
  if F_sm_in (vn : Int32) (0 : Int32) (20 : Int32) = 1 then (
    LETV (mu 0 14 : Int32) fun y2 =>
    LETV (y2 + vn : Int32) fun t3 =>
    if t3 ≤ (99 : Int32) then (
      LETV (y2 + vn : Int32) fun t5 =>
      LETV (va_up mu 0 (upd (mu 0) 14 t5) : Nat → Nat → Int32) fun nu6 =>
      ((t5 : Int32), nu6)
    ) else (
      (((-2) : Int32), mu)
    )
  ) else (
    (((-1) : Int32), mu)
  )
def F_qm_where (mu : Nat → Nat → Int32) (vk : Int32) : Int32 × (Nat → Nat → Int32) :=
  LETP (F_sm_askedLetter mu (vk : Int32)) fun r1 xi1 =>
  if r1 = 0 then (
    LETV (F_sm_letterOf mu (vk : Int32) (6 : Int32) : Int32) fun r3 =>
    LETV (F_sm_letterOf5 mu (vk : Int32) : Int32) fun r4 =>
    LETP (F_sm_ask mu (r3 : Int32) (r4 : Int32)) fun r5 xi5 =>
    ((r5 : Int32), xi5)
  ) else (
    ((r1 : Int32), xi1)
  )
def F_sm_letterTells (mu : Nat → Nat → Int32) (vk : Int32) (vw : Int32) : Int32 :=
  if vw = (0 : Int32) then (
    LETV (F_sm_letterOf mu (vk : Int32) (0 : Int32) : Int32) fun r9 =>
    (r9 : Int32)
  ) else (
    if vw = (1 : Int32) then (
      LETV (F_sm_letterOf mu (vk : Int32) (1 : Int32) : Int32) fun r8 =>
      (r8 : Int32)
    ) else (
      if vw = (2 : Int32) then (
        LETV (F_sm_worthIn mu (vk : Int32) (0 : Int32) : Int32) fun r7 =>
        (r7 : Int32)
      ) else (
        if vw = (3 : Int32) then (
          LETV (F_sm_letterOf mu (vk : Int32) (9 : Int32) : Int32) fun r6 =>
          (r6 : Int32)
        ) else (
          LETV (F_sm_letterOf mu (vk : Int32) (7 : Int32) : Int32) fun r5 =>
          (r5 : Int32)
        )
      )
    )
  )
def F_qm_letter (mu : Nat → Nat → Int32) (vk : Int32) (vw : Int32) : Int32 × (Nat → Nat → Int32) :=
  if F_sm_in (vw : Int32) (0 : Int32) (4 : Int32) = 1 then (
    LETP (F_sm_askedLetter mu (vk : Int32)) fun r2 xi2 =>
    if r2 = 0 then (
      LETV (F_sm_letterTells mu (vk : Int32) (vw : Int32) : Int32) fun r4 =>
      LETP (F_sm_ask mu (r4 : Int32) (1 : Int32)) fun r5 xi5 =>
      ((r5 : Int32), xi5)
    ) else (
      ((r2 : Int32), xi2)
    )
  ) else (
    (((-1) : Int32), mu)
  )
def F_qm_can (mu : Nat → Nat → Int32) (vk : Int32) : Int32 × (Nat → Nat → Int32) :=
  LETP (F_sm_askedLetter mu (vk : Int32)) fun r1 xi1 =>
  if r1 = 0 then (
    LETV (F_sm_canSell mu (vk : Int32) : Int32) fun r3 =>
    ((r3 : Int32), mu)
  ) else (
    ((r1 : Int32), xi1)
  )
