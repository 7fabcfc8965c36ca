def F_sm_in (va : Int32) (vb : Int32) (vc : Int32) : Int32 :=
  if va < vb then (
    (0 : Int32)
  ) else (
    if va > vc then (
      (0 : Int32)
    ) else (
      (1 : Int32)
    )
  )
def F_sm_has (va : Int32) (vb : Int32) : Int32 :=
  LETV (va >>> (vb &&& 31) : Int32) fun t1 =>
  LETV (t1 &&& 1 : Int32) fun t2 =>
  if t2 = (1 : Int32) then (
    (1 : Int32)
  ) else (
    (0 : Int32)
  )
def F_sm_sizeOf (va : Int32) : Int32 :=
  LETV (va >>> (0 &&& 31) : Int32) fun t1 =>
  LETV (t1 &&& 1 : Int32) fun t2 =>
  LETV (0 + t2 : Int32) fun t3 =>
  LETV (va >>> (1 &&& 31) : Int32) fun t4 =>
  LETV (t4 &&& 1 : Int32) fun t5 =>
  LETV (t3 + t5 : Int32) fun t6 =>
  LETV (va >>> (2 &&& 31) : Int32) fun t7 =>
  LETV (t7 &&& 1 : Int32) fun t8 =>
  LETV (t6 + t8 : Int32) fun t9 =>
  LETV (va >>> (3 &&& 31) : Int32) fun t10 =>
  LETV (t10 &&& 1 : Int32) fun t11 =>
  LETV (t9 + t11 : Int32) fun t12 =>
  LETV (va >>> (4 &&& 31) : Int32) fun t13 =>
  LETV (t13 &&& 1 : Int32) fun t14 =>
  LETV (t12 + t14 : Int32) fun t15 =>
  LETV (va >>> (5 &&& 31) : Int32) fun t16 =>
  LETV (t16 &&& 1 : Int32) fun t17 =>
  LETV (t15 + t17 : Int32) fun t18 =>
  LETV (va >>> (6 &&& 31) : Int32) fun t19 =>
  LETV (t19 &&& 1 : Int32) fun t20 =>
  LETV (t18 + t20 : Int32) fun t21 =>
  LETV (va >>> (7 &&& 31) : Int32) fun t22 =>
  LETV (t22 &&& 1 : Int32) fun t23 =>
  LETV (t21 + t23 : Int32) fun t24 =>
  LETV (va >>> (8 &&& 31) : Int32) fun t25 =>
  LETV (t25 &&& 1 : Int32) fun t26 =>
  LETV (t24 + t26 : Int32) fun t27 =>
  LETV (va >>> (9 &&& 31) : Int32) fun t28 =>
  LETV (t28 &&& 1 : Int32) fun t29 =>
  LETV (t27 + t29 : Int32) fun t30 =>
  LETV (va >>> (10 &&& 31) : Int32) fun t31 =>
  LETV (t31 &&& 1 : Int32) fun t32 =>
  LETV (t30 + t32 : Int32) fun t33 =>
  LETV (va >>> (11 &&& 31) : Int32) fun t34 =>
  LETV (t34 &&& 1 : Int32) fun t35 =>
  LETV (t33 + t35 : Int32) fun t36 =>
  (t36 : Int32)
def F_sm_isRow (va : Int32) : Int32 :=
  if F_sm_in (va : Int32) (0 : Int32) (5 : Int32) = 1 then (
    (1 : Int32)
  ) else (
    (0 : Int32)
  )
def F_sm_isText (va : Int32) : Int32 :=
  if F_sm_in (va : Int32) (0 : Int32) (3 : Int32) = 1 then (
    (1 : Int32)
  ) else (
    (0 : Int32)
  )
def F_sm_meet (mu : Nat → Nat → Int32) (vw : Int32) : Int32 × (Nat → Nat → Int32) :=
  LETV (va_up mu 0 (upd (mu 0) 0 vw) : Nat → Nat → Int32) fun nu1 =>
  LETV (nu1 1 vw.toNatClampNeg : Int32) fun y4 =>
  LETV (y4 + 1 : Int32) fun t5 =>
  LETV (va_up nu1 1 (upd (nu1 1) vw.toNatClampNeg t5) : Nat → Nat → Int32) fun nu6 =>
  (((-3) : Int32), nu6)
def F_sm_ask (mu : Nat → Nat → Int32) (va : Int32) (vb : Int32) : Int32 × (Nat → Nat → Int32) :=
  LETV (va_up mu 0 (upd (mu 0) 2 va) : Nat → Nat → Int32) fun nu1 =>
  ((vb : Int32), nu1)
def F_sm_askedRow (mu : Nat → Nat → Int32) (vr : Int32) : Int32 × (Nat → Nat → Int32) :=
  if F_sm_isRow (vr : Int32) = 1 then (
    LETV (mu 2 vr.toNatClampNeg : Int32) fun y2 =>
    if y2 ≥ (0 : Int32) then (
      ((0 : Int32), mu)
    ) else (
      LETP (F_sm_meet mu (1 : Int32)) fun r5 xi5 =>
      ((r5 : Int32), xi5)
    )
  ) else (
    (((-1) : Int32), mu)
  )
def F_sm_askedText (mu : Nat → Nat → Int32) (vt : Int32) : Int32 × (Nat → Nat → Int32) :=
  if F_sm_isText (vt : Int32) = 1 then (
    LETV (mu 5 vt.toNatClampNeg : Int32) fun y2 =>
    if y2 ≥ (0 : Int32) then (
      ((0 : Int32), mu)
    ) else (
      LETP (F_sm_meet mu (1 : Int32)) fun r5 xi5 =>
      ((r5 : Int32), xi5)
    )
  ) else (
    (((-1) : Int32), mu)
  )
