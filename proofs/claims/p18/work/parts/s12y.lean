def F_qx_put (mu : Nat → Nat → Int32) (vt : Int32) (vi : Int32) (vv : Int32) : Int32 × (Nat → Nat → Int32) :=
  LETP (F_sx_refusedText mu (vt : Int32)) fun r1 xi1 =>
  if r1 = 0 then (
    if vi < (0 : Int32) then (
      LETP (F_sx_found mu (2 : Int32)) fun r4 xi4 =>
      ((r4 : Int32), xi4)
    ) else (
      LETV (mu (14 + vt.toNatClampNeg) 1 : Int32) fun y7 =>
      if vi < y7 then (
        LETV (mu ((14 + vt.toNatClampNeg) + 13) vi.toNatClampNeg : Int32) fun y11 =>
        LETV ((vv : Int32).toInt8.toInt32 : Int32) fun t14 =>
        LETV (va_up mu ((14 + vt.toNatClampNeg) + 13) (upd (mu ((14 + vt.toNatClampNeg) + 13)) vi.toNatClampNeg (vp_nar .byte t14)) : Nat → Nat → Int32) fun nu16 =>
        LETV (y11 + 1000 : Int32) fun t19 =>
        ((t19 : Int32), nu16)
      ) else (
        LETP (F_sx_found mu (2 : Int32)) fun r20 xi20 =>
        ((r20 : Int32), xi20)
      )
    )
  ) else (
    ((r1 : Int32), xi1)
  )
def F_qx_purse (mu : Nat → Nat → Int32) (vx : Int32) (vv : Int32) : Int32 × (Nat → Nat → Int32) :=
  if F_sx_has mu (vx : Int32) = 1 then (
    if vv < (0 : Int32) then (
      (((-1) : Int32), mu)
    ) else (
      if vv ≤ (999 : Int32) then (
        LETV (mu 46 vx.toNatClampNeg : Int32) fun y4 =>
        LETV (va_up mu 46 (upd (mu 46) vx.toNatClampNeg vv) : Nat → Nat → Int32) fun nu5 =>
        ((y4 : Int32), nu5)
      ) else (
        (((-1) : Int32), mu)
      )
    )
  ) else (
    (((-1) : Int32), mu)
  )
def F_qx_days (mu : Nat → Nat → Int32) (vn : Int32) : Int32 × (Nat → Nat → Int32) :=
  if vn < (0 : Int32) then (
    (((-1) : Int32), mu)
  ) else (
    if vn ≤ (20 : Int32) then (
      LETV (mu 5 3 : Int32) fun y3 =>
      LETV (y3 + vn : Int32) fun t4 =>
      if t4 ≤ (99 : Int32) then (
        LETV (y3 + vn : Int32) fun t6 =>
        LETV (va_up mu 5 (upd (mu 5) 3 t6) : Nat → Nat → Int32) fun nu7 =>
        ((t6 : Int32), nu7)
      ) else (
        (((-2) : Int32), mu)
      )
    ) else (
      (((-1) : Int32), mu)
    )
  )
def F_qx_beside (mu : Nat → Nat → Int32) (vx : Int32) : Int32 × (Nat → Nat → Int32) :=
  if F_sx_has mu (vx : Int32) = 1 then (
    LETV (mu 5 2 : Int32) fun y2 =>
    LETV (F_sx_near mu (vx : Int32) (y2 : Int32) : Int32) fun r3 =>
    ((r3 : Int32), mu)
  ) else (
    (((-1) : Int32), mu)
  )
def F_qx_asks (mu : Nat → Nat → Int32) (vx : Int32) (vp : Int32) : Int32 × (Nat → Nat → Int32) :=
  if F_sx_has mu (vx : Int32) = 1 then (
    if vp < (0 : Int32) then (
      (((-1) : Int32), mu)
    ) else (
      if vp ≤ (999 : Int32) then (
        LETV (mu 34 vx.toNatClampNeg : Int32) fun y4 =>
        LETV (F_sx_priceAsked (y4 : Int32) (vp : Int32) : Int32) fun r5 =>
        ((r5 : Int32), mu)
      ) else (
        (((-1) : Int32), mu)
      )
    )
  ) else (
    (((-1) : Int32), mu)
  )
def F_qx_where (mu : Nat → Nat → Int32) (vk : Int32) : Int32 × (Nat → Nat → Int32) :=
  LETP (F_sx_refusedLetter mu (vk : Int32) (0 : Int32)) fun r1 xi1 =>
  if r1 = 0 then (
    LETV (mu (61 + vk.toNatClampNeg) 6 : Int32) fun y4 =>
    LETV (va_up mu 0 (upd (mu 0) 10 y4) : Nat → Nat → Int32) fun nu5 =>
    LETV (nu5 (61 + vk.toNatClampNeg) 5 : Int32) fun y10 =>
    ((y10 : Int32), nu5)
  ) else (
    ((r1 : Int32), xi1)
  )
def F_qx_snow (mu : Nat → Nat → Int32) (vi : Int32) (vs : Int32) : Int32 × (Nat → Nat → Int32) :=
  if vi < (0 : Int32) then (
    (((-1) : Int32), mu)
  ) else (
    LETV (mu 4 7 : Int32) fun y2 =>
    if vi ≥ y2 then (
      (((-1) : Int32), mu)
    ) else (
      if vs < (0 : Int32) then (
        (((-1) : Int32), mu)
      ) else (
        if vs ≤ (1 : Int32) then (
          LETV (mu 5 2 : Int32) fun y6 =>
          LETV (y6 >>> (vi &&& 31) : Int32) fun t7 =>
          LETV (t7 &&& 1 : Int32) fun t8 =>
          LETV (1 <<< (vi &&& 31) : Int32) fun t9 =>
          LETV (t9 ^^^ (-1) : Int32) fun t10 =>
          LETV (y6 &&& t10 : Int32) fun t11 =>
          LETV (vs <<< (vi &&& 31) : Int32) fun t12 =>
          LETV (t11 ||| t12 : Int32) fun t13 =>
          LETV (va_up mu 5 (upd (mu 5) 2 t13) : Nat → Nat → Int32) fun nu14 =>
          ((t8 : Int32), nu14)
        ) else (
          (((-1) : Int32), mu)
        )
      )
    )
  )
