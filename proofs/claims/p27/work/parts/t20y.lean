def F_qm_cheapest (mu : Nat → Nat → Int32) (vk : Int32) (vr : Int32) : Int32 × (Nat → Nat → Int32) :=
  if F_sm_isRow (vr : Int32) = 1 then (
    LETP (F_sm_askedRoutes mu (vk : Int32)) fun r2 xi2 =>
    if r2 = 0 then (
      LETV (xi2 0 30 : Int32) fun y5 =>
      if y5 = (0 : Int32) then (
        (((-9) : Int32), xi2)
      ) else (
        LETV (xi2 0 32 : Int32) fun y7 =>
        LETV (F_sm_layRoute17 xi2 (vr : Int32) (y7 : Int32) : Nat → Nat → Int32) fun xi8 =>
        LETV (xi8 0 31 : Int32) fun y10 =>
        ((y10 : Int32), xi8)
      )
    ) else (
      ((r2 : Int32), xi2)
    )
  ) else (
    (((-1) : Int32), mu)
  )
def F_qm_soonest (mu : Nat → Nat → Int32) (vk : Int32) (vr : Int32) : Int32 × (Nat → Nat → Int32) :=
  LETV (mu 0 39 : Int32) fun y1 =>
  LETV (mu 0 33 : Int32) fun y2 =>
  LETV (mu 0 35 : Int32) fun y3 =>
  if F_sm_isRow (vr : Int32) = 1 then (
    LETP (F_sm_askedRoutes mu (vk : Int32)) fun r5 xi5 =>
    if r5 = 0 then (
      LETV (xi5 0 33 : Int32) fun y8 =>
      if y8 = (0 : Int32) then (
        (((-9) : Int32), xi5)
      ) else (
        LETV (xi5 0 35 : Int32) fun y10 =>
        LETV (F_sm_layRoute18 xi5 (vr : Int32) (y10 : Int32) : Nat → Nat → Int32) fun xi11 =>
        LETV (xi11 0 39 : Int32) fun y13 =>
        LETV (xi11 0 33 : Int32) fun y14 =>
        LETV (xi11 0 35 : Int32) fun y15 =>
        LETV (xi11 0 34 : Int32) fun y16 =>
        LETV (y15 - 1 : Int32) fun t17 =>
        LETP (F_sm_ask xi11 (y16 : Int32) (t17 : Int32)) fun r18 xi18 =>
        LETV (xi18 0 39 : Int32) fun y20 =>
        LETV (xi18 0 33 : Int32) fun y21 =>
        LETV (xi18 0 35 : Int32) fun y22 =>
        ((r18 : Int32), xi18)
      )
    ) else (
      ((r5 : Int32), xi5)
    )
  ) else (
    (((-1) : Int32), mu)
  )
def F_qm_comes (mu : Nat → Nat → Int32) (vk : Int32) : Int32 × (Nat → Nat → Int32) :=
  LETP (F_sm_askedRoutes mu (vk : Int32)) fun r1 xi1 =>
  if r1 = 0 then (
    LETV (xi1 0 30 : Int32) fun y4 =>
    LETV (xi1 0 33 : Int32) fun y5 =>
    LETP (F_sm_ask xi1 (y4 : Int32) (y5 : Int32)) fun r6 xi6 =>
    ((r6 : Int32), xi6)
  ) else (
    ((r1 : Int32), xi1)
  )
def F_qm_bars (mu : Nat → Nat → Int32) (vk : Int32) : Int32 × (Nat → Nat → Int32) :=
  LETP (F_sm_askedRoutes mu (vk : Int32)) fun r1 xi1 =>
  if r1 = 0 then (
    LETV (xi1 0 33 : Int32) fun y4 =>
    if y4 = (0 : Int32) then (
      ((0 : Int32), xi1)
    ) else (
      LETV (xi1 0 36 : Int32) fun y6 =>
      ((y6 : Int32), xi1)
    )
  ) else (
    ((r1 : Int32), xi1)
  )
def F_qm_why (mu : Nat → Nat → Int32) (vk : Int32) : Int32 × (Nat → Nat → Int32) :=
  LETP (F_sm_askedRoutes mu (vk : Int32)) fun r1 xi1 =>
  if r1 = 0 then (
    LETV (xi1 0 33 : Int32) fun y4 =>
    if y4 ≤ (0 : Int32) then (
      LETV (xi1 0 30 : Int32) fun y6 =>
      if y6 ≤ (0 : Int32) then (
        LETV (va_up xi1 0 (upd (xi1 0) 38 0) : Nat → Nat → Int32) fun nu8 =>
        LETV (F_sm_routesOf nu8 (vk : Int32) : Nat → Nat → Int32) fun xi13 =>
        LETV (xi13 0 30 : Int32) fun y15 =>
        if y15 ≤ (0 : Int32) then (
          ((1 : Int32), xi13)
        ) else (
          ((2 : Int32), xi13)
        )
      ) else (
        ((3 : Int32), xi1)
      )
    ) else (
      ((0 : Int32), xi1)
    )
  ) else (
    ((r1 : Int32), xi1)
  )
def F_qm_needs (mu : Nat → Nat → Int32) (vk : Int32) : Int32 × (Nat → Nat → Int32) :=
  LETP (F_sm_askedRoutes mu (vk : Int32)) fun r1 xi1 =>
  if r1 = 0 then (
    LETV (xi1 0 37 : Int32) fun y4 =>
    if y4 ≤ (999 : Int32) then (
      ((y4 : Int32), xi1)
    ) else (
      (((-9) : Int32), xi1)
    )
  ) else (
    ((r1 : Int32), xi1)
  )
def L_qm_lend_22_0 (vk : Int32) : Nat → (Int32) → (Int32) → (Int32) → (Nat → Nat → Int32) → Int32 × (Nat → Nat → Int32)
  | 0, v3_22, v4_22, v5_22, nu22_ => (0, nu22_)
  | n + 1, v3_22, v4_22, v5_22, nu22_ =>
    LETV (nu22_ 0 8 : Int32) fun y4 =>
    if v5_22 ≥ y4 then (
      if v3_22 = ((-9) : Int32) then (
        (((-9) : Int32), nu22_)
      ) else (
        LETP (F_sm_ask nu22_ (v4_22 : Int32) (v3_22 : Int32)) fun r7 xi7 =>
        ((r7 : Int32), xi7)
      )
    ) else (
      LETV (F_sm_letterOf5 nu22_ (vk : Int32) : Int32) fun r9 =>
      if v5_22 = r9 then (
        LETV (nu22_ 8 v5_22.toNatClampNeg : Int32) fun y11 =>
        LETV (va_up nu22_ 8 (upd (nu22_ 8) v5_22.toNatClampNeg 99) : Nat → Nat → Int32) fun nu12 =>
        LETV (F_sm_routesOf nu12 (vk : Int32) : Nat → Nat → Int32) fun xi15 =>
        LETV (va_up xi15 8 (upd (xi15 8) v5_22.toNatClampNeg y11) : Nat → Nat → Int32) fun nu16 =>
        LETV ((v5_22 + 1) : Int32) fun w18 =>
        L_qm_lend_22_0 vk n (v3_22 : Int32) (v4_22 : Int32) (w18 : Int32) nu16
      ) else (
        LETV (nu22_ 7 v5_22.toNatClampNeg : Int32) fun y19 =>
        if y19 = (3 : Int32) then (
          LETV (F_sm_letterOf nu22_ (vk : Int32) (1 : Int32) : Int32) fun r33 =>
          if v5_22 = r33 then (
            LETV (nu22_ 8 v5_22.toNatClampNeg : Int32) fun y44 =>
            LETV (va_up nu22_ 8 (upd (nu22_ 8) v5_22.toNatClampNeg 99) : Nat → Nat → Int32) fun nu45 =>
            LETV (F_sm_routesOf nu45 (vk : Int32) : Nat → Nat → Int32) fun xi49 =>
            LETV (va_up xi49 8 (upd (xi49 8) v5_22.toNatClampNeg y44) : Nat → Nat → Int32) fun nu50 =>
            LETV (nu50 0 31 : Int32) fun y52 =>
            if y52 ≥ v4_22 then (
              LETV ((v5_22 + 1) : Int32) fun w54 =>
              L_qm_lend_22_0 vk n (v3_22 : Int32) (v4_22 : Int32) (w54 : Int32) nu50
            ) else (
              LETV ((v5_22 + 1) : Int32) fun w55 =>
              L_qm_lend_22_0 vk n (v5_22 : Int32) (y52 : Int32) (w55 : Int32) nu50
            )
          ) else (
            LETV (nu22_ 8 v5_22.toNatClampNeg : Int32) fun y35 =>
            LETV (va_up nu22_ 8 (upd (nu22_ 8) v5_22.toNatClampNeg 99) : Nat → Nat → Int32) fun nu36 =>
            LETV (F_sm_routesOf nu36 (vk : Int32) : Nat → Nat → Int32) fun xi40 =>
            LETV (va_up xi40 8 (upd (xi40 8) v5_22.toNatClampNeg y35) : Nat → Nat → Int32) fun nu41 =>
            LETV ((v5_22 + 1) : Int32) fun w43 =>
            L_qm_lend_22_0 vk n (v3_22 : Int32) (v4_22 : Int32) (w43 : Int32) nu41
          )
        ) else (
          LETV (nu22_ 8 v5_22.toNatClampNeg : Int32) fun y21 =>
          LETV (va_up nu22_ 8 (upd (nu22_ 8) v5_22.toNatClampNeg 99) : Nat → Nat → Int32) fun nu22 =>
          LETV (F_sm_routesOf nu22 (vk : Int32) : Nat → Nat → Int32) fun xi26 =>
          LETV (va_up xi26 8 (upd (xi26 8) v5_22.toNatClampNeg y21) : Nat → Nat → Int32) fun nu27 =>
          LETV (nu27 0 31 : Int32) fun y29 =>
          if y29 ≥ v4_22 then (
            LETV ((v5_22 + 1) : Int32) fun w31 =>
            L_qm_lend_22_0 vk n (v3_22 : Int32) (v4_22 : Int32) (w31 : Int32) nu27
          ) else (
            LETV ((v5_22 + 1) : Int32) fun w32 =>
            L_qm_lend_22_0 vk n (v5_22 : Int32) (y29 : Int32) (w32 : Int32) nu27
          )
        )
      )
    )
def F_qm_lend (mu : Nat → Nat → Int32) (vk : Int32) : Int32 × (Nat → Nat → Int32) :=
  LETP (F_sm_askedRoutes mu (vk : Int32)) fun r1 xi1 =>
  if r1 = 0 then (
    L_qm_lend_22_0 vk 10 ((-9) : Int32) (1048576 : Int32) (0 : Int32) xi1
  ) else (
    ((r1 : Int32), xi1)
  )
