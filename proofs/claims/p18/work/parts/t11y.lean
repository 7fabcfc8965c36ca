def L_qm_text_34_0 (vn : Int32) (vt : Int32) : Nat → (Int32) → (Nat → Nat → Int32) → Int32 × (Nat → Nat → Int32)
  | 0, v3_34, nu34_ => (0, nu34_)
  | n + 1, v3_34, nu34_ =>
    if v3_34 ≥ (80 : Int32) then (
      ((vn : Int32), nu34_)
    ) else (
      LETV (80 * vt : Int32) fun t7 =>
      LETV (t7 + v3_34 : Int32) fun t8 =>
      LETV (va_up nu34_ 6 (upd (nu34_ 6) t8.toNatClampNeg 32) : Nat → Nat → Int32) fun nu9 =>
      LETV ((v3_34 + 1) : Int32) fun w11 =>
      L_qm_text_34_0 vn vt n (w11 : Int32) nu9
    )
def F_qm_text (mu : Nat → Nat → Int32) (vt : Int32) (vn : Int32) : Int32 × (Nat → Nat → Int32) :=
  if F_sm_isText (vt : Int32) = 1 then (
    if vn ≤ (80 : Int32) then (
      if vn ≥ (0 : Int32) then (
        LETV (va_up mu 5 (upd (mu 5) vt.toNatClampNeg vn) : Nat → Nat → Int32) fun nu4 =>
        L_qm_text_34_0 vn vt 83 (0 : Int32) nu4
      ) else (
        LETP (F_sm_meet mu (5 : Int32)) fun r12 xi12 =>
        ((r12 : Int32), xi12)
      )
    ) else (
      (((-1) : Int32), mu)
    )
  ) else (
    (((-1) : Int32), mu)
  )
def F_qm_put (mu : Nat → Nat → Int32) (vt : Int32) (vi : Int32) (vv : Int32) : Int32 × (Nat → Nat → Int32) :=
  LETP (F_sm_askedText mu (vt : Int32)) fun r1 xi1 =>
  if r1 = 0 then (
    LETV (mu 5 vt.toNatClampNeg : Int32) fun y3 =>
    LETV (y3 - 1 : Int32) fun t4 =>
    if F_sm_in (vi : Int32) (0 : Int32) (t4 : Int32) = 1 then (
      LETV (80 * vt : Int32) fun t6 =>
      LETV (t6 + vi : Int32) fun t7 =>
      LETV (mu 6 t7.toNatClampNeg : Int32) fun y8 =>
      LETV (80 * vt : Int32) fun t9 =>
      LETV (t9 + vi : Int32) fun t10 =>
      LETV ((vv : Int32).toInt8.toInt32 : Int32) fun t11 =>
      LETV (va_up mu 6 (upd (mu 6) t10.toNatClampNeg t11) : Nat → Nat → Int32) fun nu12 =>
      LETV (y8 + 1000 : Int32) fun t15 =>
      ((t15 : Int32), nu12)
    ) else (
      LETP (F_sm_meet mu (2 : Int32)) fun r16 xi16 =>
      ((r16 : Int32), xi16)
    )
  ) else (
    ((r1 : Int32), xi1)
  )
