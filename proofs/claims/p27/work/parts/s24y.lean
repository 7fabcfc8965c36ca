def F_qx_cheapest (mu : Nat → Nat → Int32) (vk : Int32) (vr : Int32) : Int32 × (Nat → Nat → Int32) :=
  if F_sx_isRow (vr : Int32) = 1 then (
    LETP (F_sx_refusedRoute mu (vk : Int32) (0 : Int32)) fun r2 xi2 =>
    if r2 = 0 then (
      LETV (F_sx_walkOf mu (61 + vk.toNatClampNeg) : Nat → Nat → Int32) fun xi5 =>
      LETV (xi5 55 3 : Int32) fun y7 =>
      if y7 = (0 : Int32) then (
        (((-9) : Int32), xi5)
      ) else (
        LETV (xi5 55 1 : Int32) fun y10 =>
        LETV (y10 + 1 : Int32) fun t11 =>
        LETV (F_sx_Row_beLike57 xi5 (8 + vr.toNatClampNeg) (t11 : Int32) : Nat → Nat → Int32) fun xi12 =>
        LETV (xi12 55 2 : Int32) fun y14 =>
        ((y14 : Int32), xi12)
      )
    ) else (
      ((r2 : Int32), xi2)
    )
  ) else (
    LETP (F_sx_refusedRoute mu (vk : Int32) (1 : Int32)) fun r16 xi16 =>
    if r16 = 0 then (
      (0, mu)
    ) else (
      ((r16 : Int32), xi16)
    )
  )
def F_qx_soonest (mu : Nat → Nat → Int32) (vk : Int32) (vr : Int32) : Int32 × (Nat → Nat → Int32) :=
  if F_sx_isRow (vr : Int32) = 1 then (
    LETP (F_sx_refusedRoute mu (vk : Int32) (0 : Int32)) fun r2 xi2 =>
    if r2 = 0 then (
      LETV (F_sx_walkOf mu (61 + vk.toNatClampNeg) : Nat → Nat → Int32) fun xi5 =>
      LETV (xi5 56 3 : Int32) fun y7 =>
      if y7 = (0 : Int32) then (
        (((-9) : Int32), xi5)
      ) else (
        LETV (xi5 56 1 : Int32) fun y10 =>
        LETV (y10 + 1 : Int32) fun t11 =>
        LETV (F_sx_Row_beLike58 xi5 (8 + vr.toNatClampNeg) (t11 : Int32) : Nat → Nat → Int32) fun xi12 =>
        LETV (xi12 56 2 : Int32) fun y14 =>
        LETV (va_up xi12 0 (upd (xi12 0) 10 y14) : Nat → Nat → Int32) fun nu15 =>
        LETV (nu15 56 1 : Int32) fun y19 =>
        ((y19 : Int32), nu15)
      )
    ) else (
      ((r2 : Int32), xi2)
    )
  ) else (
    LETP (F_sx_refusedRoute mu (vk : Int32) (1 : Int32)) fun r21 xi21 =>
    if r21 = 0 then (
      (0, mu)
    ) else (
      ((r21 : Int32), xi21)
    )
  )
def F_qx_comes (mu : Nat → Nat → Int32) (vk : Int32) : Int32 × (Nat → Nat → Int32) :=
  LETP (F_sx_refusedRoute mu (vk : Int32) (0 : Int32)) fun r1 xi1 =>
  if r1 = 0 then (
    LETV (F_sx_walkOf mu (61 + vk.toNatClampNeg) : Nat → Nat → Int32) fun xi4 =>
    LETV (xi4 32 11 : Int32) fun y6 =>
    LETV (va_up xi4 0 (upd (xi4 0) 10 y6) : Nat → Nat → Int32) fun nu7 =>
    LETV (nu7 32 12 : Int32) fun y11 =>
    ((y11 : Int32), nu7)
  ) else (
    ((r1 : Int32), xi1)
  )
def F_qx_bars (mu : Nat → Nat → Int32) (vk : Int32) : Int32 × (Nat → Nat → Int32) :=
  LETP (F_sx_refusedRoute mu (vk : Int32) (0 : Int32)) fun r1 xi1 =>
  if r1 = 0 then (
    LETV (F_sx_walkOf mu (61 + vk.toNatClampNeg) : Nat → Nat → Int32) fun xi4 =>
    LETV (xi4 32 12 : Int32) fun y6 =>
    if y6 = (0 : Int32) then (
      ((0 : Int32), xi4)
    ) else (
      LETV (xi4 32 13 : Int32) fun y8 =>
      ((y8 : Int32), xi4)
    )
  ) else (
    ((r1 : Int32), xi1)
  )
def F_qx_why (mu : Nat → Nat → Int32) (vk : Int32) : Int32 × (Nat → Nat → Int32) :=
  LETP (F_sx_refusedRoute mu (vk : Int32) (0 : Int32)) fun r1 xi1 =>
  if r1 = 0 then (
    LETV (F_sx_walkOf mu (61 + vk.toNatClampNeg) : Nat → Nat → Int32) fun xi4 =>
    LETV (xi4 32 12 : Int32) fun y6 =>
    if y6 ≤ (0 : Int32) then (
      LETV (xi4 32 11 : Int32) fun y8 =>
      if y8 ≤ (0 : Int32) then (
        LETV (F_sx_isLinked xi4 : Int32) fun r10 =>
        if r10 = (0 : Int32) then (
          ((1 : Int32), xi4)
        ) else (
          ((2 : Int32), xi4)
        )
      ) else (
        ((3 : Int32), xi4)
      )
    ) else (
      ((0 : Int32), xi4)
    )
  ) else (
    ((r1 : Int32), xi1)
  )
def F_qx_needs (mu : Nat → Nat → Int32) (vk : Int32) : Int32 × (Nat → Nat → Int32) :=
  LETP (F_sx_refusedRoute mu (vk : Int32) (0 : Int32)) fun r1 xi1 =>
  if r1 = 0 then (
    LETV (F_sx_walkOf mu (61 + vk.toNatClampNeg) : Nat → Nat → Int32) fun xi4 =>
    LETV (xi4 32 11 : Int32) fun y6 =>
    if y6 = (0 : Int32) then (
      (((-9) : Int32), xi4)
    ) else (
      LETV (xi4 32 14 : Int32) fun y8 =>
      if y8 ≤ (999 : Int32) then (
        ((y8 : Int32), xi4)
      ) else (
        (((-9) : Int32), xi4)
      )
    )
  ) else (
    ((r1 : Int32), xi1)
  )
def L_qx_lend_48_0 (vk : Int32) : Nat → (Int32) → (Int32) → (Int32) → (Nat → Nat → Int32) → Int32 × (Nat → Nat → Int32)
  | 0, v4_48, v5_48, v6_48, nu48_ => (0, nu48_)
  | n + 1, v4_48, v5_48, v6_48, nu48_ =>
    LETV (nu48_ 4 6 : Int32) fun y6 =>
    if v6_48 ≥ y6 then (
      if v4_48 = ((-9) : Int32) then (
        ((v4_48 : Int32), nu48_)
      ) else (
        LETV (va_up nu48_ 0 (upd (nu48_ 0) 10 v5_48) : Nat → Nat → Int32) fun nu9 =>
        ((v4_48 : Int32), nu9)
      )
    ) else (
      LETV (nu48_ (61 + vk.toNatClampNeg) 5 : Int32) fun y13 =>
      if v6_48 = y13 then (
        LETV ((v6_48 + 1) : Int32) fun w15 =>
        L_qx_lend_48_0 vk n (v4_48 : Int32) (v5_48 : Int32) (w15 : Int32) nu48_
      ) else (
        LETV (nu48_ 34 v6_48.toNatClampNeg : Int32) fun y16 =>
        if y16 = (3 : Int32) then (
          LETV (nu48_ (61 + vk.toNatClampNeg) 1 : Int32) fun y30 =>
          if v6_48 = y30 then (
            LETV (F_sx_walkWithLoan nu48_ (v6_48 : Int32) (99 : Int32) : Nat → Nat → Int32) fun xi32 =>
            LETV (xi32 55 3 : Int32) fun y34 =>
            if y34 = (0 : Int32) then (
              LETV ((v6_48 + 1) : Int32) fun w36 =>
              L_qx_lend_48_0 vk n (v4_48 : Int32) (v5_48 : Int32) (w36 : Int32) xi32
            ) else (
              if v4_48 = ((-9) : Int32) then (
                LETV (xi32 55 2 : Int32) fun y38 =>
                LETV ((v6_48 + 1) : Int32) fun w39 =>
                L_qx_lend_48_0 vk n (v6_48 : Int32) (y38 : Int32) (w39 : Int32) xi32
              ) else (
                LETV (xi32 55 2 : Int32) fun y40 =>
                if y40 ≥ v5_48 then (
                  LETV ((v6_48 + 1) : Int32) fun w42 =>
                  L_qx_lend_48_0 vk n (v4_48 : Int32) (v5_48 : Int32) (w42 : Int32) xi32
                ) else (
                  LETV ((v6_48 + 1) : Int32) fun w43 =>
                  L_qx_lend_48_0 vk n (v6_48 : Int32) (y40 : Int32) (w43 : Int32) xi32
                )
              )
            )
          ) else (
            LETV ((v6_48 + 1) : Int32) fun w44 =>
            L_qx_lend_48_0 vk n (v4_48 : Int32) (v5_48 : Int32) (w44 : Int32) nu48_
          )
        ) else (
          LETV (F_sx_walkWithLoan nu48_ (v6_48 : Int32) (99 : Int32) : Nat → Nat → Int32) fun xi18 =>
          LETV (xi18 55 3 : Int32) fun y20 =>
          if y20 = (0 : Int32) then (
            LETV ((v6_48 + 1) : Int32) fun w22 =>
            L_qx_lend_48_0 vk n (v4_48 : Int32) (v5_48 : Int32) (w22 : Int32) xi18
          ) else (
            if v4_48 = ((-9) : Int32) then (
              LETV (xi18 55 2 : Int32) fun y24 =>
              LETV ((v6_48 + 1) : Int32) fun w25 =>
              L_qx_lend_48_0 vk n (v6_48 : Int32) (y24 : Int32) (w25 : Int32) xi18
            ) else (
              LETV (xi18 55 2 : Int32) fun y26 =>
              if y26 ≥ v5_48 then (
                LETV ((v6_48 + 1) : Int32) fun w28 =>
                L_qx_lend_48_0 vk n (v4_48 : Int32) (v5_48 : Int32) (w28 : Int32) xi18
              ) else (
                LETV ((v6_48 + 1) : Int32) fun w29 =>
                L_qx_lend_48_0 vk n (v6_48 : Int32) (y26 : Int32) (w29 : Int32) xi18
              )
            )
          )
        )
      )
    )
def F_qx_lend (mu : Nat → Nat → Int32) (vk : Int32) : Int32 × (Nat → Nat → Int32) :=
  LETP (F_sx_refusedRoute mu (vk : Int32) (0 : Int32)) fun r1 xi1 =>
  if r1 = 0 then (
    LETV (F_sx_lookAt mu (61 + vk.toNatClampNeg) : Nat → Nat → Int32) fun xi4 =>
    L_qx_lend_48_0 vk 10 ((-9) : Int32) (0 : Int32) (0 : Int32) xi4
  ) else (
    ((r1 : Int32), xi1)
  )
def L_qx_block_64_0 (t11 : Int32) : Nat → (Int32) → (Nat → Nat → Int32) → Int32 × (Nat → Nat → Int32)
  | 0, v4_64, nu64_ => (0, nu64_)
  | n + 1, v4_64, nu64_ =>
    LETV (nu64_ 4 7 : Int32) fun y12 =>
    if v4_64 > y12 then (
      ((0 : Int32), nu64_)
    ) else (
      LETP (F_sx_leastBlock nu64_ (t11 : Int32) (v4_64 : Int32)) fun r14 xi14 =>
      if r14 = ((-9) : Int32) then (
        LETV ((v4_64 + 1) : Int32) fun w17 =>
        L_qx_block_64_0 t11 n (w17 : Int32) xi14
      ) else (
        LETV (va_up xi14 0 (upd (xi14 0) 10 r14) : Nat → Nat → Int32) fun nu18 =>
        ((v4_64 : Int32), nu18)
      )
    )
def F_qx_block (mu : Nat → Nat → Int32) (vk : Int32) : Int32 × (Nat → Nat → Int32) :=
  LETP (F_sx_refusedRoute mu (vk : Int32) (0 : Int32)) fun r1 xi1 =>
  if r1 = 0 then (
    LETV (F_sx_lookAt mu (61 + vk.toNatClampNeg) : Nat → Nat → Int32) fun xi4 =>
    LETV (xi4 4 7 : Int32) fun y6 =>
    LETV (1 <<< (y6 &&& 31) : Int32) fun t7 =>
    LETV (t7 - 1 : Int32) fun t8 =>
    LETV (xi4 5 2 : Int32) fun y9 =>
    LETV (y9 ^^^ (-1) : Int32) fun t10 =>
    LETV (t8 &&& t10 : Int32) fun t11 =>
    L_qx_block_64_0 t11 16 (0 : Int32) xi4
  ) else (
    ((r1 : Int32), xi1)
  )
def L_qx_post_34_1 (v4_19 : Int32) (vv : Int32) (k_qx_post_19_0 : (Int32) → (Int32) → (Int32) → (Nat → Nat → Int32) → (Int32 × (Nat → Nat → Int32))) : Nat → (Int32) → (Int32) → (Int32) → (Nat → Nat → Int32) → Int32 × (Nat → Nat → Int32)
  | 0, v2_34, v3_34, v5_34, nu34_ => (0, nu34_)
  | n + 1, v2_34, v3_34, v5_34, nu34_ =>
    LETV (nu34_ 4 6 : Int32) fun y10 =>
    if v5_34 ≥ y10 then (
      LETV ((v4_19 + 1) : Int32) fun w12 =>
      k_qx_post_19_0 (v2_34 : Int32) (v3_34 : Int32) (w12 : Int32) nu34_
    ) else (
      if v4_19 = v5_34 then (
        LETV ((v5_34 + 1) : Int32) fun w25 =>
        L_qx_post_34_1 v4_19 vv k_qx_post_19_0 n (v2_34 : Int32) (v3_34 : Int32) (w25 : Int32) nu34_
      ) else (
        LETV (F_sx_walkNew nu34_ (v4_19 : Int32) (v5_34 : Int32) : Nat → Nat → Int32) fun xi14 =>
        LETV (xi14 55 3 : Int32) fun y16 =>
        if y16 = (0 : Int32) then (
          LETV ((v3_34 + 1) : Int32) fun w23 =>
          LETV ((v5_34 + 1) : Int32) fun w24 =>
          L_qx_post_34_1 v4_19 vv k_qx_post_19_0 n (v2_34 : Int32) (w23 : Int32) (w24 : Int32) xi14
        ) else (
          LETV (xi14 55 2 : Int32) fun y18 =>
          if vv ≥ y18 then (
            LETV ((v5_34 + 1) : Int32) fun w20 =>
            L_qx_post_34_1 v4_19 vv k_qx_post_19_0 n (v2_34 : Int32) (v3_34 : Int32) (w20 : Int32) xi14
          ) else (
            LETV ((v2_34 + 1) : Int32) fun w21 =>
            LETV ((v5_34 + 1) : Int32) fun w22 =>
            L_qx_post_34_1 v4_19 vv k_qx_post_19_0 n (w21 : Int32) (v3_34 : Int32) (w22 : Int32) xi14
          )
        )
      )
    )
def L_qx_post_19_0 (vv : Int32) : Nat → (Int32) → (Int32) → (Int32) → (Nat → Nat → Int32) → Int32 × (Nat → Nat → Int32)
  | 0, v2_19, v3_19, v4_19, nu19_ => (0, nu19_)
  | n + 1, v2_19, v3_19, v4_19, nu19_ =>
    LETV (nu19_ 4 6 : Int32) fun y3 =>
    if v4_19 ≥ y3 then (
      LETV (va_up nu19_ 0 (upd (nu19_ 0) 10 v3_19) : Nat → Nat → Int32) fun nu5 =>
      LETV (v2_19 + v3_19 : Int32) fun t9 =>
      ((t9 : Int32), nu5)
    ) else (
      L_qx_post_34_1 v4_19 vv (fun z_v2_19 z_v3_19 z_v4_19 z_nu19_ => L_qx_post_19_0 vv n z_v2_19 z_v3_19 z_v4_19 z_nu19_) 10 (v2_19 : Int32) (v3_19 : Int32) (0 : Int32) nu19_
    )
def F_qx_post (mu : Nat → Nat → Int32) (vv : Int32) : Int32 × (Nat → Nat → Int32) :=
  if vv < (0 : Int32) then (
    (((-1) : Int32), mu)
  ) else (
    if vv ≤ (99 : Int32) then (
      L_qx_post_19_0 vv 10 (0 : Int32) (0 : Int32) (0 : Int32) mu
    ) else (
      (((-1) : Int32), mu)
    )
  )
def F_qx_fake (mu : Nat → Nat → Int32) (vx : Int32) (vy : Int32) (vw : Int32) : Int32 × (Nat → Nat → Int32) :=
  if F_sx_isPair mu (vx : Int32) (vy : Int32) = 1 then (
    if vw < (0 : Int32) then (
      (((-1) : Int32), mu)
    ) else (
      if vw ≤ (99 : Int32) then (
        LETV (F_sx_walkNew mu (vx : Int32) (vy : Int32) : Nat → Nat → Int32) fun xi4 =>
        LETV (xi4 55 3 : Int32) fun y6 =>
        if y6 = (0 : Int32) then (
          ((0 : Int32), xi4)
        ) else (
          LETV (xi4 55 2 : Int32) fun y8 =>
          if y8 > vw then (
            ((0 : Int32), xi4)
          ) else (
            ((y8 : Int32), xi4)
          )
        )
      ) else (
        (((-1) : Int32), mu)
      )
    )
  ) else (
    (((-1) : Int32), mu)
  )
