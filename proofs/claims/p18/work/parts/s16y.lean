def L_sx_kindSigned_2_0 (vs : Int32) : Nat → (Int32) → Int32
  | 0, v1_2 => 0
  | n + 1, v1_2 =>
    if v1_2 ≥ (6 : Int32) then (
      ((-9) : Int32)
    ) else (
      LETV (([98, 109, 102, 114, 117, 115] : List Int32).getD (v1_2 : Int32).toNatClampNeg 0 : Int32) fun t4 =>
      if t4 = vs then (
        (v1_2 : Int32)
      ) else (
        LETV ((v1_2 + 1) : Int32) fun w6 =>
        L_sx_kindSigned_2_0 vs n (w6 : Int32)
      )
    )
def F_sx_kindSigned (vs : Int32) : Int32 :=
  L_sx_kindSigned_2_0 vs 9 (0 : Int32)
def F_sx_faultInBearer (mu : Nat → Nat → Int32) (kx : Nat) (vi : Int32) : Int32 × (Nat → Nat → Int32) :=
  LETV (mu (kx + 13) vi.toNatClampNeg : Int32) fun y2 =>
  LETV (F_sx_kindSigned (y2 : Int32) : Int32) fun r3 =>
  if r3 = ((-9) : Int32) then (
    ((vi : Int32), mu)
  ) else (
    LETV (mu 31 5 : Int32) fun y5 =>
    if y5 > (0 : Int32) then (
      ((vi : Int32), mu)
    ) else (
      LETV (mu 31 4 : Int32) fun y7 =>
      if y7 < (7 : Int32) then (
        LETV (vi + 1 : Int32) fun t9 =>
        LETV (F_sx_figureAt mu kx (t9 : Int32) : Int32) fun r10 =>
        if r10 = ((-9) : Int32) then (
          LETV (vi + 1 : Int32) fun t34 =>
          ((t34 : Int32), mu)
        ) else (
          LETV (vi + 2 : Int32) fun t12 =>
          LETV (F_sx_figureAt mu kx (t12 : Int32) : Int32) fun r13 =>
          if r13 = ((-9) : Int32) then (
            LETV (vi + 2 : Int32) fun t33 =>
            ((t33 : Int32), mu)
          ) else (
            LETV (va_up mu 48 (upd (mu 48) y7.toNatClampNeg r3) : Nat → Nat → Int32) fun nu15 =>
            LETV (10 * r10 : Int32) fun t20 =>
            LETV (t20 + r13 : Int32) fun t21 =>
            LETV (va_up nu15 49 (upd (nu15 49) y7.toNatClampNeg t21) : Nat → Nat → Int32) fun nu22 =>
            LETV (y7 + 1 : Int32) fun t27 =>
            LETV (va_up nu22 31 (upd (nu22 31) 4 t27) : Nat → Nat → Int32) fun nu28 =>
            (((-9) : Int32), nu28)
          )
        )
      ) else (
        ((vi : Int32), mu)
      )
    )
  )
def F_sx_faultInPath (mu : Nat → Nat → Int32) (kx : Nat) (vi : Int32) : Int32 × (Nat → Nat → Int32) :=
  LETV (mu 31 5 : Int32) fun y1 =>
  if y1 < (12 : Int32) then (
    LETV (vi + 1 : Int32) fun t3 =>
    LETV (F_sx_figureAt mu kx (t3 : Int32) : Int32) fun r4 =>
    if r4 = ((-9) : Int32) then (
      LETV (vi + 1 : Int32) fun t6 =>
      ((t6 : Int32), mu)
    ) else (
      LETV (mu 31 4 : Int32) fun y7 =>
      if r4 < y7 then (
        LETV (vi + 2 : Int32) fun t9 =>
        LETV (F_sx_figureAt mu kx (t9 : Int32) : Int32) fun r10 =>
        if r10 = ((-9) : Int32) then (
          LETV (vi + 2 : Int32) fun t12 =>
          ((t12 : Int32), mu)
        ) else (
          if r10 ≥ y7 then (
            LETV (vi + 2 : Int32) fun t14 =>
            ((t14 : Int32), mu)
          ) else (
            if r10 = r4 then (
              LETV (vi + 2 : Int32) fun t29 =>
              ((t29 : Int32), mu)
            ) else (
              LETV (va_up mu 50 (upd (mu 50) y1.toNatClampNeg r4) : Nat → Nat → Int32) fun nu16 =>
              LETV (va_up nu16 51 (upd (nu16 51) y1.toNatClampNeg r10) : Nat → Nat → Int32) fun nu20 =>
              LETV (y1 + 1 : Int32) fun t24 =>
              LETV (va_up nu20 31 (upd (nu20 31) 5 t24) : Nat → Nat → Int32) fun nu25 =>
              (((-9) : Int32), nu25)
            )
          )
        )
      ) else (
        LETV (vi + 1 : Int32) fun t30 =>
        ((t30 : Int32), mu)
      )
    )
  ) else (
    ((vi : Int32), mu)
  )
def L_sx_faultIn_12_0 (kx : Nat) : Nat → (Int32) → (Nat → Nat → Int32) → Int32 × (Nat → Nat → Int32)
  | 0, v2_12, nu12_ => (0, nu12_)
  | n + 1, v2_12, nu12_ =>
    LETV (nu12_ kx 1 : Int32) fun y8 =>
    if v2_12 ≥ y8 then (
      (((-9) : Int32), nu12_)
    ) else (
      LETV (nu12_ (kx + 13) v2_12.toNatClampNeg : Int32) fun y11 =>
      if y11 = (32 : Int32) then (
        LETV ((v2_12 + 1) : Int32) fun w25 =>
        L_sx_faultIn_12_0 kx n (w25 : Int32) nu12_
      ) else (
        if y11 = (119 : Int32) then (
          LETP (F_sx_faultInPath nu12_ kx (v2_12 : Int32)) fun r20 xi20 =>
          if r20 = ((-9) : Int32) then (
            LETV ((v2_12 + 2) : Int32) fun w23 =>
            LETV ((w23 + 1) : Int32) fun w24 =>
            L_sx_faultIn_12_0 kx n (w24 : Int32) xi20
          ) else (
            ((r20 : Int32), xi20)
          )
        ) else (
          LETP (F_sx_faultInBearer nu12_ kx (v2_12 : Int32)) fun r15 xi15 =>
          if r15 = ((-9) : Int32) then (
            LETV ((v2_12 + 2) : Int32) fun w18 =>
            LETV ((w18 + 1) : Int32) fun w19 =>
            L_sx_faultIn_12_0 kx n (w19 : Int32) xi15
          ) else (
            ((r15 : Int32), xi15)
          )
        )
      )
    )
def F_sx_faultIn (mu : Nat → Nat → Int32) (kx : Nat) : Int32 × (Nat → Nat → Int32) :=
  LETV (va_up mu 31 (upd (mu 31) 4 0) : Nat → Nat → Int32) fun nu1 =>
  LETV (va_up nu1 31 (upd (nu1 31) 5 0) : Nat → Nat → Int32) fun nu4 =>
  L_sx_faultIn_12_0 kx 85 (0 : Int32) nu4
