def F_sm_here (mu : Nat → Nat → Int32) (vt : Int32) : Int32 :=
  LETV (mu 0 18 : Int32) fun y1 =>
  LETV (mu 5 vt.toNatClampNeg : Int32) fun y2 =>
  if y1 ≥ y2 then (
    ((-9) : Int32)
  ) else (
    LETV (80 * vt : Int32) fun t5 =>
    LETV (t5 + y1 : Int32) fun t6 =>
    LETV (mu 6 t6.toNatClampNeg : Int32) fun y7 =>
    (y7 : Int32)
  )
def F_sm_kindOf (va : Int32) : Int32 :=
  if va = (98 : Int32) then (
    (0 : Int32)
  ) else (
    if va = (109 : Int32) then (
      (1 : Int32)
    ) else (
      if va = (102 : Int32) then (
        (2 : Int32)
      ) else (
        if va = (114 : Int32) then (
          (3 : Int32)
        ) else (
          if va = (117 : Int32) then (
            (4 : Int32)
          ) else (
            if va = (115 : Int32) then (
              (5 : Int32)
            ) else (
              ((-9) : Int32)
            )
          )
        )
      )
    )
  )
def L_sm_readsBearer_48_0 (r4 : Int32) (vt : Int32) : Nat → (Int32) → (Int32) → (Nat → Nat → Int32) → Int32 × (Nat → Nat → Int32)
  | 0, v3_48, v4_48, nu48_ => (0, nu48_)
  | n + 1, v3_48, v4_48, nu48_ =>
    LETV (nu48_ 0 18 : Int32) fun y18 =>
    LETV (nu48_ 0 19 : Int32) fun y19 =>
    if v4_48 ≥ (2 : Int32) then (
      LETV (va_up nu48_ 11 (upd (nu48_ 11) y19.toNatClampNeg r4) : Nat → Nat → Int32) fun nu21 =>
      LETV (va_up nu21 12 (upd (nu21 12) y19.toNatClampNeg v3_48) : Nat → Nat → Int32) fun nu26 =>
      LETV (y19 + 1 : Int32) fun t31 =>
      LETV (va_up nu26 0 (upd (nu26 0) 19 t31) : Nat → Nat → Int32) fun nu32 =>
      ((1 : Int32), nu32)
    ) else (
      LETV (F_sm_here nu48_ (vt : Int32) : Int32) fun r38 =>
      if F_sm_in (r38 : Int32) (48 : Int32) (57 : Int32) = 1 then (
        LETV (10 * v3_48 : Int32) fun t40 =>
        LETV (F_sm_here nu48_ (vt : Int32) : Int32) fun r41 =>
        LETV (t40 + r41 : Int32) fun t42 =>
        LETV (t42 - 48 : Int32) fun t43 =>
        LETV (y18 + 1 : Int32) fun t44 =>
        LETV (va_up nu48_ 0 (upd (nu48_ 0) 18 t44) : Nat → Nat → Int32) fun nu45 =>
        LETV ((v4_48 + 1) : Int32) fun w50 =>
        L_sm_readsBearer_48_0 r4 vt n (t43 : Int32) (w50 : Int32) nu45
      ) else (
        ((0 : Int32), nu48_)
      )
    )
def F_sm_readsBearer (mu : Nat → Nat → Int32) (vt : Int32) : Int32 × (Nat → Nat → Int32) :=
  LETV (mu 0 18 : Int32) fun y1 =>
  LETV (mu 0 19 : Int32) fun y2 =>
  LETV (F_sm_here mu (vt : Int32) : Int32) fun r3 =>
  LETV (F_sm_kindOf (r3 : Int32) : Int32) fun r4 =>
  if r4 = ((-9) : Int32) then (
    ((0 : Int32), mu)
  ) else (
    LETV (mu 0 20 : Int32) fun y7 =>
    if y7 > (0 : Int32) then (
      ((0 : Int32), mu)
    ) else (
      if y2 = (7 : Int32) then (
        ((0 : Int32), mu)
      ) else (
        LETV (y1 + 1 : Int32) fun t11 =>
        LETV (va_up mu 0 (upd (mu 0) 18 t11) : Nat → Nat → Int32) fun nu12 =>
        L_sm_readsBearer_48_0 r4 vt 5 (0 : Int32) (0 : Int32) nu12
      )
    )
  )
def L_sm_readsPath_30_0 (t12 : Int32) (vt : Int32) : Nat → (Int32) → (Nat → Nat → Int32) → Int32 × (Nat → Nat → Int32)
  | 0, v3_30, nu30_ => (0, nu30_)
  | n + 1, v3_30, nu30_ =>
    LETV (nu30_ 0 18 : Int32) fun y13 =>
    LETV (nu30_ 0 20 : Int32) fun y14 =>
    LETV (nu30_ 0 19 : Int32) fun y15 =>
    if v3_30 ≥ (2 : Int32) then (
      LETV (y14 + 1 : Int32) fun t17 =>
      LETV (va_up nu30_ 0 (upd (nu30_ 0) 20 t17) : Nat → Nat → Int32) fun nu18 =>
      ((1 : Int32), nu18)
    ) else (
      LETV (F_sm_here nu30_ (vt : Int32) : Int32) fun r25 =>
      LETV (r25 - 48 : Int32) fun t26 =>
      LETV (y15 - 1 : Int32) fun t27 =>
      if F_sm_in (t26 : Int32) (0 : Int32) (t27 : Int32) = 1 then (
        if v3_30 = (1 : Int32) then (
          LETV (nu30_ 13 t12.toNatClampNeg : Int32) fun y47 =>
          if t26 = y47 then (
            ((0 : Int32), nu30_)
          ) else (
            LETV (t12 + v3_30 : Int32) fun t49 =>
            LETV (va_up nu30_ 13 (upd (nu30_ 13) t49.toNatClampNeg t26) : Nat → Nat → Int32) fun nu50 =>
            LETV (y13 + 1 : Int32) fun t56 =>
            LETV (va_up nu50 0 (upd (nu50 0) 18 t56) : Nat → Nat → Int32) fun nu57 =>
            LETV ((v3_30 + 1) : Int32) fun w63 =>
            L_sm_readsPath_30_0 t12 vt n (w63 : Int32) nu57
          )
        ) else (
          LETV (t12 + v3_30 : Int32) fun t30 =>
          LETV (va_up nu30_ 13 (upd (nu30_ 13) t30.toNatClampNeg t26) : Nat → Nat → Int32) fun nu31 =>
          LETV (y13 + 1 : Int32) fun t37 =>
          LETV (va_up nu31 0 (upd (nu31 0) 18 t37) : Nat → Nat → Int32) fun nu38 =>
          LETV ((v3_30 + 1) : Int32) fun w44 =>
          L_sm_readsPath_30_0 t12 vt n (w44 : Int32) nu38
        )
      ) else (
        ((0 : Int32), nu30_)
      )
    )
def F_sm_readsPath (mu : Nat → Nat → Int32) (vt : Int32) : Int32 × (Nat → Nat → Int32) :=
  LETV (mu 0 18 : Int32) fun y1 =>
  LETV (mu 0 20 : Int32) fun y2 =>
  LETV (mu 0 19 : Int32) fun y3 =>
  if y2 = (12 : Int32) then (
    ((0 : Int32), mu)
  ) else (
    LETV (y1 + 1 : Int32) fun t5 =>
    LETV (va_up mu 0 (upd (mu 0) 18 t5) : Nat → Nat → Int32) fun nu6 =>
    LETV (2 * y2 : Int32) fun t12 =>
    L_sm_readsPath_30_0 t12 vt 5 (0 : Int32) nu6
  )
def L_sm_goesOn_15_0 (vt : Int32) : Nat → (Nat → Nat → Int32) → Int32 × (Nat → Nat → Int32)
  | 0, nu15_ => (0, nu15_)
  | n + 1, nu15_ =>
    LETV (nu15_ 0 18 : Int32) fun y14 =>
    LETV (nu15_ 5 vt.toNatClampNeg : Int32) fun y15 =>
    if y14 ≥ y15 then (
      (((-9) : Int32), nu15_)
    ) else (
      LETV (F_sm_here nu15_ (vt : Int32) : Int32) fun r17 =>
      if r17 = (32 : Int32) then (
        LETV (y14 + 1 : Int32) fun t35 =>
        LETV (va_up nu15_ 0 (upd (nu15_ 0) 18 t35) : Nat → Nat → Int32) fun nu36 =>
        L_sm_goesOn_15_0 vt n nu36
      ) else (
        LETV (F_sm_here nu15_ (vt : Int32) : Int32) fun r19 =>
        if r19 = (119 : Int32) then (
          LETP (F_sm_readsPath nu15_ (vt : Int32)) fun r29 xi29 =>
          LETV (xi29 0 18 : Int32) fun y32 =>
          if r29 = (0 : Int32) then (
            ((y32 : Int32), xi29)
          ) else (
            L_sm_goesOn_15_0 vt n xi29
          )
        ) else (
          LETP (F_sm_readsBearer nu15_ (vt : Int32)) fun r22 xi22 =>
          LETV (xi22 0 18 : Int32) fun y25 =>
          if r22 = (0 : Int32) then (
            ((y25 : Int32), xi22)
          ) else (
            L_sm_goesOn_15_0 vt n xi22
          )
        )
      )
    )
def F_sm_goesOn (mu : Nat → Nat → Int32) (vt : Int32) : Int32 × (Nat → Nat → Int32) :=
  LETV (mu 0 18 : Int32) fun y1 =>
  LETV (va_up mu 0 (upd (mu 0) 18 0) : Nat → Nat → Int32) fun nu2 =>
  LETV (va_up nu2 0 (upd (nu2 0) 19 0) : Nat → Nat → Int32) fun nu5 =>
  LETV (va_up nu5 0 (upd (nu5 0) 20 0) : Nat → Nat → Int32) fun nu9 =>
  L_sm_goesOn_15_0 vt 102 nu9
def F_qm_fault (mu : Nat → Nat → Int32) (vt : Int32) : Int32 × (Nat → Nat → Int32) :=
  LETP (F_sm_askedText mu (vt : Int32)) fun r1 xi1 =>
  if r1 = 0 then (
    LETP (F_sm_goesOn mu (vt : Int32)) fun r3 xi3 =>
    ((r3 : Int32), xi3)
  ) else (
    ((r1 : Int32), xi1)
  )
def L_qm_town_127_2 : Nat → (Int32) → (Nat → Nat → Int32) → Int32 × (Nat → Nat → Int32)
  | 0, v3_127, nu127_ => (0, nu127_)
  | n + 1, v3_127, nu127_ =>
    if v3_127 ≥ (3 : Int32) then (
      LETV (nu127_ 0 8 : Int32) fun y39 =>
      ((y39 : Int32), nu127_)
    ) else (
      LETV (64 * v3_127 : Int32) fun t40 =>
      LETV (va_up nu127_ 15 (upd (nu127_ 15) t40.toNatClampNeg (-9)) : Nat → Nat → Int32) fun nu42 =>
      LETV ((v3_127 + 1) : Int32) fun w44 =>
      L_qm_town_127_2 n (w44 : Int32) nu42
    )
def L_qm_town_81_1 : Nat → (Int32) → (Nat → Nat → Int32) → Int32 × (Nat → Nat → Int32)
  | 0, v3_81, nu81_ => (0, nu81_)
  | n + 1, v3_81, nu81_ =>
    if v3_81 ≥ (24 : Int32) then (
      LETV (va_up nu81_ 0 (upd (nu81_ 0) 13 0) : Nat → Nat → Int32) fun nu20 =>
      LETV (va_up nu20 0 (upd (nu20 0) 14 0) : Nat → Nat → Int32) fun nu23 =>
      LETV (va_up nu23 0 (upd (nu23 0) 15 0) : Nat → Nat → Int32) fun nu27 =>
      LETV (va_up nu27 0 (upd (nu27 0) 17 0) : Nat → Nat → Int32) fun nu32 =>
      L_qm_town_127_2 6 (0 : Int32) nu32
    ) else (
      LETV (nu81_ 13 v3_81.toNatClampNeg : Int32) fun y45 =>
      LETV (va_up nu81_ 9 (upd (nu81_ 9) v3_81.toNatClampNeg y45) : Nat → Nat → Int32) fun nu46 =>
      LETV ((v3_81 + 1) : Int32) fun w49 =>
      L_qm_town_81_1 n (w49 : Int32) nu46
    )
def L_qm_town_43_0 : Nat → (Int32) → (Nat → Nat → Int32) → Int32 × (Nat → Nat → Int32)
  | 0, v3_43, nu43_ => (0, nu43_)
  | n + 1, v3_43, nu43_ =>
    if v3_43 ≥ (7 : Int32) then (
      L_qm_town_81_1 27 (0 : Int32) nu43_
    ) else (
      LETV (nu43_ 11 v3_43.toNatClampNeg : Int32) fun y50 =>
      LETV (va_up nu43_ 7 (upd (nu43_ 7) v3_43.toNatClampNeg y50) : Nat → Nat → Int32) fun nu51 =>
      LETV (nu51 12 v3_43.toNatClampNeg : Int32) fun y54 =>
      LETV (va_up nu51 8 (upd (nu51 8) v3_43.toNatClampNeg y54) : Nat → Nat → Int32) fun nu55 =>
      LETV ((v3_43 + 1) : Int32) fun w59 =>
      L_qm_town_43_0 n (w59 : Int32) nu55
    )
def F_qm_town (mu : Nat → Nat → Int32) (vt : Int32) : Int32 × (Nat → Nat → Int32) :=
  LETP (F_sm_askedText mu (vt : Int32)) fun r1 xi1 =>
  if r1 = 0 then (
    LETP (F_sm_goesOn mu (vt : Int32)) fun r3 xi3 =>
    if r3 = ((-9) : Int32) then (
      LETV (xi3 0 19 : Int32) fun y6 =>
      LETV (va_up xi3 0 (upd (xi3 0) 8 y6) : Nat → Nat → Int32) fun nu7 =>
      LETV (nu7 0 20 : Int32) fun y11 =>
      LETV (va_up nu7 0 (upd (nu7 0) 11 y11) : Nat → Nat → Int32) fun nu12 =>
      L_qm_town_43_0 10 (0 : Int32) nu12
    ) else (
      (((-4) : Int32), xi3)
    )
  ) else (
    ((r1 : Int32), xi1)
  )
