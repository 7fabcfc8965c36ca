def F_qx_fault (mu : Nat → Nat → Int32) (vt : Int32) : Int32 × (Nat → Nat → Int32) :=
  LETP (F_sx_refusedText mu (vt : Int32)) fun r1 xi1 =>
  if r1 = 0 then (
    LETP (F_sx_faultIn mu (14 + vt.toNatClampNeg)) fun r4 xi4 =>
    ((r4 : Int32), xi4)
  ) else (
    ((r1 : Int32), xi1)
  )
def L_qx_town_54_0 : Nat → (Int32) → (Nat → Nat → Int32) → Int32 × (Nat → Nat → Int32)
  | 0, v3_54, nu54_ => (0, nu54_)
  | n + 1, v3_54, nu54_ =>
    if v3_54 ≥ (3 : Int32) then (
      LETV (nu54_ 4 6 : Int32) fun y13 =>
      ((y13 : Int32), nu54_)
    ) else (
      LETV (va_up nu54_ (18 + v3_54.toNatClampNeg) (upd (nu54_ (18 + v3_54.toNatClampNeg)) 5 0) : Nat → Nat → Int32) fun nu15 =>
      LETV ((v3_54 + 1) : Int32) fun w18 =>
      L_qx_town_54_0 n (w18 : Int32) nu15
    )
def F_qx_town (mu : Nat → Nat → Int32) (vt : Int32) : Int32 × (Nat → Nat → Int32) :=
  LETP (F_sx_refusedText mu (vt : Int32)) fun r1 xi1 =>
  if r1 = 0 then (
    LETP (F_sx_faultIn mu (14 + vt.toNatClampNeg)) fun r4 xi4 =>
    if r4 = ((-9) : Int32) then (
      LETV (F_sx_build xi4 : Nat → Nat → Int32) fun xi7 =>
      LETV (va_up xi7 6 (upd (xi7 6) 1 0) : Nat → Nat → Int32) fun nu9 =>
      L_qx_town_54_0 6 (0 : Int32) nu9
    ) else (
      (((-4) : Int32), xi4)
    )
  ) else (
    ((r1 : Int32), xi1)
  )
