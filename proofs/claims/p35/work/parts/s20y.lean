def F_qx_send (mu : Nat → Nat → Int32) (vx : Int32) (vy : Int32) (vw : Int32) (vf : Int32) : Int32 × (Nat → Nat → Int32) :=
  if F_sx_isPair mu (vx : Int32) (vy : Int32) = 1 then (
    if vw < (0 : Int32) then (
      (((-1) : Int32), mu)
    ) else (
      if vw > (99 : Int32) then (
        (((-1) : Int32), mu)
      ) else (
        if vf < (0 : Int32) then (
          (((-1) : Int32), mu)
        ) else (
          if vf ≤ (9 : Int32) then (
            LETV (mu 5 4 : Int32) fun y6 =>
            if y6 < (4 : Int32) then (
              LETV (mu 5 3 : Int32) fun y9 =>
              LETV (F_sx_begin mu (61 + y6.toNatClampNeg) (vx : Int32) (vy : Int32) (vw : Int32) (vf : Int32) (y9 : Int32) : Nat → Nat → Int32) fun xi10 =>
              LETV (y6 + 1 : Int32) fun t12 =>
              LETV (va_up xi10 5 (upd (xi10 5) 4 t12) : Nat → Nat → Int32) fun nu13 =>
              ((y6 : Int32), nu13)
            ) else (
              (((-2) : Int32), mu)
            )
          ) else (
            (((-1) : Int32), mu)
          )
        )
      )
    )
  ) else (
    (((-1) : Int32), mu)
  )
def F_qx_sell (mu : Nat → Nat → Int32) (vk : Int32) (vx : Int32) : Int32 × (Nat → Nat → Int32) :=
  if F_sx_has mu (vx : Int32) = 1 then (
    LETP (F_sx_refusedLetter mu (vk : Int32) (0 : Int32)) fun r2 xi2 =>
    if r2 = 0 then (
      LETV (F_sx_buyersOf mu (61 + vk.toNatClampNeg) : Int32) fun r5 =>
      LETV (F_sx_hasBit (r5 : Int32) (vx : Int32) : Int32) fun r6 =>
      if r6 = (0 : Int32) then (
        (((-4) : Int32), mu)
      ) else (
        if F_sx_isFull mu = 1 then (
          (((-2) : Int32), mu)
        ) else (
          LETP (F_sx_enterSale mu (vk : Int32) (vx : Int32)) fun r9 xi9 =>
          LETV (xi9 (61 + vk.toNatClampNeg) 9 : Int32) fun y11 =>
          if y11 = (0 : Int32) then (
            ((r9 : Int32), xi9)
          ) else (
            LETV (r9 + 1000 : Int32) fun t13 =>
            ((t13 : Int32), xi9)
          )
        )
      )
    ) else (
      ((r2 : Int32), xi2)
    )
  ) else (
    LETP (F_sx_refusedLetter mu (vk : Int32) (1 : Int32)) fun r15 xi15 =>
    if r15 = 0 then (
      (0, mu)
    ) else (
      ((r15 : Int32), xi15)
    )
  )
def F_qx_letter (mu : Nat → Nat → Int32) (vk : Int32) (vw : Int32) : Int32 × (Nat → Nat → Int32) :=
  if vw < (0 : Int32) then (
    LETP (F_sx_refusedLetter mu (vk : Int32) (1 : Int32)) fun r2 xi2 =>
    if r2 = 0 then (
      (0, mu)
    ) else (
      ((r2 : Int32), xi2)
    )
  ) else (
    if vw < (5 : Int32) then (
      LETP (F_sx_refusedLetter mu (vk : Int32) (0 : Int32)) fun r6 xi6 =>
      if r6 = 0 then (
        LETV (mu 5 3 : Int32) fun y9 =>
        LETV (F_sx_fact mu (61 + vk.toNatClampNeg) (vw : Int32) (y9 : Int32) : Int32) fun r10 =>
        LETV (va_up mu 0 (upd (mu 0) 10 r10) : Nat → Nat → Int32) fun nu11 =>
        ((1 : Int32), nu11)
      ) else (
        ((r6 : Int32), xi6)
      )
    ) else (
      LETP (F_sx_refusedLetter mu (vk : Int32) (1 : Int32)) fun r16 xi16 =>
      if r16 = 0 then (
        (0, mu)
      ) else (
        ((r16 : Int32), xi16)
      )
    )
  )
def F_qx_can (mu : Nat → Nat → Int32) (vk : Int32) : Int32 × (Nat → Nat → Int32) :=
  LETP (F_sx_refusedLetter mu (vk : Int32) (0 : Int32)) fun r1 xi1 =>
  if r1 = 0 then (
    LETV (F_sx_buyersOf mu (61 + vk.toNatClampNeg) : Int32) fun r4 =>
    ((r4 : Int32), mu)
  ) else (
    ((r1 : Int32), xi1)
  )
def L_qx_undo_29_0 (t4 : Int32) : Nat → (Int32) → (Nat → Nat → Int32) → Int32 × (Nat → Nat → Int32)
  | 0, v3_29, nu29_ => (0, nu29_)
  | n + 1, v3_29, nu29_ =>
    if v3_29 ≥ t4 then (
      ((t4 : Int32), nu29_)
    ) else (
      LETV (F_sx_undoLast nu29_ : Nat → Nat → Int32) fun xi6 =>
      LETV ((v3_29 + 1) : Int32) fun w8 =>
      L_qx_undo_29_0 t4 n (w8 : Int32) xi6
    )
def F_qx_undo (mu : Nat → Nat → Int32) (vn : Int32) : Int32 × (Nat → Nat → Int32) :=
  if vn < (0 : Int32) then (
    (((-1) : Int32), mu)
  ) else (
    LETV (mu 6 1 : Int32) fun y2 =>
    if vn ≤ y2 then (
      LETV (y2 - vn : Int32) fun t4 =>
      L_qx_undo_29_0 t4 43 (0 : Int32) mu
    ) else (
      (((-1) : Int32), mu)
    )
  )
def F_qx_keep (mu : Nat → Nat → Int32) (vk : Int32) : Int32 × (Nat → Nat → Int32) :=
  if F_sx_isPlace (vk : Int32) = 1 then (
    LETV (mu 4 6 : Int32) fun y2 =>
    if y2 = (0 : Int32) then (
      (((-4) : Int32), mu)
    ) else (
      if vk = 0 then (
        LETV (F_sx_Standing_beLike_18_5 mu : Nat → Nat → Int32) fun xi5 =>
        LETV (va_up xi5 18 (upd (xi5 18) 5 1) : Nat → Nat → Int32) fun nu7 =>
        LETV (nu7 5 3 : Int32) fun y10 =>
        ((y10 : Int32), nu7)
      ) else (
        if vk = 1 then (
          LETV (F_sx_Standing_beLike_19_5 mu : Nat → Nat → Int32) fun xi11 =>
          LETV (va_up xi11 19 (upd (xi11 19) 5 1) : Nat → Nat → Int32) fun nu13 =>
          LETV (nu13 5 3 : Int32) fun y16 =>
          ((y16 : Int32), nu13)
        ) else (
          LETV (F_sx_Standing_beLike_20_5 mu : Nat → Nat → Int32) fun xi17 =>
          LETV (va_up xi17 20 (upd (xi17 20) 5 1) : Nat → Nat → Int32) fun nu19 =>
          LETV (nu19 5 3 : Int32) fun y22 =>
          ((y22 : Int32), nu19)
        )
      )
    )
  ) else (
    (((-1) : Int32), mu)
  )
def F_qx_on (mu : Nat → Nat → Int32) (vk : Int32) : Int32 × (Nat → Nat → Int32) :=
  if F_sx_isPlace (vk : Int32) = 1 then (
    if vk = 0 then (
      LETV (mu 18 5 : Int32) fun y3 =>
      if y3 = (0 : Int32) then (
        LETP (F_sx_found mu (1 : Int32)) fun r11 xi11 =>
        ((r11 : Int32), xi11)
      ) else (
        LETV (F_sx_Standing_beLike_5_18 mu : Nat → Nat → Int32) fun xi5 =>
        LETV (va_up xi5 6 (upd (xi5 6) 1 0) : Nat → Nat → Int32) fun nu7 =>
        LETV (nu7 5 3 : Int32) fun y10 =>
        ((y10 : Int32), nu7)
      )
    ) else (
      if vk = 1 then (
        LETV (mu 19 5 : Int32) fun y13 =>
        if y13 = (0 : Int32) then (
          LETP (F_sx_found mu (1 : Int32)) fun r21 xi21 =>
          ((r21 : Int32), xi21)
        ) else (
          LETV (F_sx_Standing_beLike_5_19 mu : Nat → Nat → Int32) fun xi15 =>
          LETV (va_up xi15 6 (upd (xi15 6) 1 0) : Nat → Nat → Int32) fun nu17 =>
          LETV (nu17 5 3 : Int32) fun y20 =>
          ((y20 : Int32), nu17)
        )
      ) else (
        LETV (mu 20 5 : Int32) fun y23 =>
        if y23 = (0 : Int32) then (
          LETP (F_sx_found mu (1 : Int32)) fun r31 xi31 =>
          ((r31 : Int32), xi31)
        ) else (
          LETV (F_sx_Standing_beLike_5_20 mu : Nat → Nat → Int32) fun xi25 =>
          LETV (va_up xi25 6 (upd (xi25 6) 1 0) : Nat → Nat → Int32) fun nu27 =>
          LETV (nu27 5 3 : Int32) fun y30 =>
          ((y30 : Int32), nu27)
        )
      )
    )
  ) else (
    (((-1) : Int32), mu)
  )
def F_qx_bearer (mu : Nat → Nat → Int32) (vx : Int32) (vw : Int32) : Int32 × (Nat → Nat → Int32) :=
  if F_sx_has mu (vx : Int32) = 1 then (
    if vw < (0 : Int32) then (
      (((-1) : Int32), mu)
    ) else (
      if vw < (4 : Int32) then (
        LETV (F_sx_bearerFact mu (vx : Int32) (vw : Int32) : Int32) fun r4 =>
        LETV (va_up mu 0 (upd (mu 0) 10 r4) : Nat → Nat → Int32) fun nu5 =>
        ((1 : Int32), nu5)
      ) else (
        (((-1) : Int32), mu)
      )
    )
  ) else (
    (((-1) : Int32), mu)
  )
def F_qx_mark (mu : Nat → Nat → Int32) (vx : Int32) (vd : Int32) : Int32 × (Nat → Nat → Int32) :=
  if F_sx_has mu (vx : Int32) = 1 then (
    if vd ≤ (0 : Int32) then (
      (((-1) : Int32), mu)
    ) else (
      if vd ≤ (5 : Int32) then (
        LETV (mu 34 vx.toNatClampNeg : Int32) fun y4 =>
        LETV (F_sx_isOfKind (y4 : Int32) (vd : Int32) : Int32) fun r5 =>
        if r5 = (0 : Int32) then (
          LETP (F_sx_found mu (3 : Int32)) fun r15 xi15 =>
          ((r15 : Int32), xi15)
        ) else (
          if (vd).toInt < 1 ∨ 4 < (vd).toInt then (
            LETV (F_sx_paidForUnread mu (vx : Int32) : Int32) fun r8 =>
            ((r8 : Int32), mu)
          ) else (
            if (vd).toInt = 1 then (
              LETV (F_sx_priceAsked (y4 : Int32) (0 : Int32) : Int32) fun r9 =>
              LETV (F_sx_priceAsked (0 : Int32) (0 : Int32) : Int32) fun r10 =>
              LETV (r9 - r10 : Int32) fun t11 =>
              ((t11 : Int32), mu)
            ) else (
              if (vd).toInt = 2 then (
                LETV (F_sx_friendsNear mu (vx : Int32) : Int32) fun r12 =>
                ((r12 : Int32), mu)
              ) else (
                if (vd).toInt = 3 then (
                  LETV (F_sx_unreadTo mu (vx : Int32) : Int32) fun r13 =>
                  ((r13 : Int32), mu)
                ) else (
                  LETV (F_sx_priceAsked (y4 : Int32) (10 : Int32) : Int32) fun r14 =>
                  ((r14 : Int32), mu)
                )
              )
            )
          )
        )
      ) else (
        (((-1) : Int32), mu)
      )
    )
  ) else (
    (((-1) : Int32), mu)
  )
def F_qx_gain (mu : Nat → Nat → Int32) (vx : Int32) : Int32 × (Nat → Nat → Int32) :=
  if F_sx_has mu (vx : Int32) = 1 then (
    LETV (F_sx_gainOf mu (vx : Int32) : Int32) fun r2 =>
    LETV (va_up mu 0 (upd (mu 0) 10 r2) : Nat → Nat → Int32) fun nu3 =>
    ((1 : Int32), nu3)
  ) else (
    (((-1) : Int32), mu)
  )
def F_qx_worth (mu : Nat → Nat → Int32) (vk : Int32) (vx : Int32) (vd : Int32) : Int32 × (Nat → Nat → Int32) :=
  if F_sx_has mu (vx : Int32) = 1 then (
    if vd < (0 : Int32) then (
      LETP (F_sx_refusedRoute mu (vk : Int32) (1 : Int32)) fun r3 xi3 =>
      if r3 = 0 then (
        (0, mu)
      ) else (
        ((r3 : Int32), xi3)
      )
    ) else (
      if vd ≤ (20 : Int32) then (
        LETP (F_sx_refusedRoute mu (vk : Int32) (0 : Int32)) fun r7 xi7 =>
        if r7 = 0 then (
          LETP (F_sx_worthTo mu (61 + vk.toNatClampNeg) (vx : Int32) (vd : Int32)) fun r10 xi10 =>
          ((r10 : Int32), xi10)
        ) else (
          ((r7 : Int32), xi7)
        )
      ) else (
        LETP (F_sx_refusedRoute mu (vk : Int32) (1 : Int32)) fun r13 xi13 =>
        if r13 = 0 then (
          (0, mu)
        ) else (
          ((r13 : Int32), xi13)
        )
      )
    )
  ) else (
    LETP (F_sx_refusedRoute mu (vk : Int32) (1 : Int32)) fun r16 xi16 =>
    if r16 = 0 then (
      (0, mu)
    ) else (
      ((r16 : Int32), xi16)
    )
  )
def L_qx_bundle_30_0 (r2 : Int32) (vx : Int32) : Nat → (Int32) → (Int32) → (Int32) → (Nat → Nat → Int32) → Int32 × (Nat → Nat → Int32)
  | 0, v3_30, v4_30, v5_30, nu30_ => (0, nu30_)
  | n + 1, v3_30, v4_30, v5_30, nu30_ =>
    if v5_30 ≥ (16 : Int32) then (
      LETV (va_up nu30_ 0 (upd (nu30_ 0) 10 v4_30) : Nat → Nat → Int32) fun nu4 =>
      ((v3_30 : Int32), nu4)
    ) else (
      LETV (F_sx_bitCount (v5_30 : Int32) : Int32) fun r7 =>
      if r7 ≤ v3_30 then (
        LETV ((v5_30 + 1) : Int32) fun w9 =>
        L_qx_bundle_30_0 r2 vx n (v3_30 : Int32) (v4_30 : Int32) (w9 : Int32) nu30_
      ) else (
        LETV (r2 ^^^ (-1) : Int32) fun t10 =>
        LETV (v5_30 &&& t10 : Int32) fun t11 =>
        if t11 = (0 : Int32) then (
          LETV (F_sx_priceOfAll nu30_ (v5_30 : Int32) : Int32) fun r14 =>
          LETV (nu30_ 46 vx.toNatClampNeg : Int32) fun y15 =>
          if r14 > y15 then (
            LETV ((v5_30 + 1) : Int32) fun w17 =>
            L_qx_bundle_30_0 r2 vx n (v3_30 : Int32) (v4_30 : Int32) (w17 : Int32) nu30_
          ) else (
            LETV ((v5_30 + 1) : Int32) fun w18 =>
            L_qx_bundle_30_0 r2 vx n (r7 : Int32) (v5_30 : Int32) (w18 : Int32) nu30_
          )
        ) else (
          LETV ((v5_30 + 1) : Int32) fun w13 =>
          L_qx_bundle_30_0 r2 vx n (v3_30 : Int32) (v4_30 : Int32) (w13 : Int32) nu30_
        )
      )
    )
def F_qx_bundle (mu : Nat → Nat → Int32) (vx : Int32) : Int32 × (Nat → Nat → Int32) :=
  if F_sx_has mu (vx : Int32) = 1 then (
    LETV (F_sx_buyableBy mu (vx : Int32) : Int32) fun r2 =>
    L_qx_bundle_30_0 r2 vx 19 (0 : Int32) (0 : Int32) (1 : Int32) mu
  ) else (
    (((-1) : Int32), mu)
  )
def F_qx_upper (mu : Nat → Nat → Int32) : Int64 × (Nat → Nat → Int32) :=
  LETV (F_sx_richestPurse mu : Int64) fun r1 =>
  LETV (F_sx_allPurses mu : Int64) fun r2 =>
  LETV (F_sx_commonDivisor (r1 : Int64) (r2 : Int64) : Int64) fun r3 =>
  LETV (lg_cmp r3 0 : Int32) fun t4 =>
  if t4 = (0 : Int32) then (
    ((0 : Int64), mu)
  ) else (
    LETV (F_sx_richestPurse mu : Int64) fun r6 =>
    LETV (r6 / r3 : Int64) fun l7 =>
    ((l7 : Int64), mu)
  )
def F_qx_lower (mu : Nat → Nat → Int32) : Int64 × (Nat → Nat → Int32) :=
  LETV (F_sx_richestPurse mu : Int64) fun r1 =>
  LETV (F_sx_allPurses mu : Int64) fun r2 =>
  LETV (F_sx_commonDivisor (r1 : Int64) (r2 : Int64) : Int64) fun r3 =>
  LETV (lg_cmp r3 0 : Int32) fun t4 =>
  if t4 = (0 : Int32) then (
    ((1 : Int64), mu)
  ) else (
    LETV (F_sx_allPurses mu : Int64) fun r6 =>
    LETV (r6 / r3 : Int64) fun l7 =>
    ((l7 : Int64), mu)
  )
def L_qx_luck_78_1 (v6_69 : Int32) (k_qx_luck_69_0 : (Int64) → (Int32) → (Int32) → (Nat → Nat → Int32) → (Int32 × (Nat → Nat → Int32))) : Nat → (Int64) → (Int32) → (Int32) → (Nat → Nat → Int32) → Int32 × (Nat → Nat → Int32)
  | 0, v3_78, v5_78, v7_78, nu78_ => (0, nu78_)
  | n + 1, v3_78, v5_78, v7_78, nu78_ =>
    LETV (nu78_ 5 4 : Int32) fun y14 =>
    if v7_78 ≥ y14 then (
      LETV (nu78_ 5 3 : Int32) fun y16 =>
      LETV (y16 + 1 : Int32) fun t17 =>
      LETV (va_up nu78_ 5 (upd (nu78_ 5) 3 t17) : Nat → Nat → Int32) fun nu18 =>
      LETV ((v6_69 + 1) : Int32) fun w22 =>
      k_qx_luck_69_0 (v3_78 : Int64) (v5_78 : Int32) (w22 : Int32) nu18
    ) else (
      LETV (F_sx_buyersOf nu78_ (61 + v7_78.toNatClampNeg) : Int32) fun r24 =>
      LETV (F_sx_bitCount (r24 : Int32) : Int32) fun r25 =>
      if r25 = (0 : Int32) then (
        LETV ((v7_78 + 1) : Int32) fun w43 =>
        L_qx_luck_78_1 v6_69 k_qx_luck_69_0 n (v3_78 : Int64) (v5_78 : Int32) (w43 : Int32) nu78_
      ) else (
        if F_sx_isFull nu78_ = 1 then (
          ((v5_78 : Int32), nu78_)
        ) else (
          LETV (v3_78 * 48271 : Int64) fun l28 =>
          LETV (l28 - l28 / 2147483647 * 2147483647 : Int64) fun l29 =>
          LETV ((r25 : Int32).toInt64 : Int64) fun l30 =>
          LETV (l29 - l29 / l30 * l30 : Int64) fun l31 =>
          LETV ((l31 : Int64).toInt32 : Int32) fun t32 =>
          LETV (F_sx_bitAt (r24 : Int32) (t32 : Int32) : Int32) fun r33 =>
          LETP (F_sx_enterSale nu78_ (v7_78 : Int32) (r33 : Int32)) fun r34 xi34 =>
          LETV (xi34 (61 + v7_78.toNatClampNeg) 9 : Int32) fun y37 =>
          if y37 = (0 : Int32) then (
            LETV (v5_78 + 0 : Int32) fun t39 =>
            LETV ((v7_78 + 1) : Int32) fun w40 =>
            L_qx_luck_78_1 v6_69 k_qx_luck_69_0 n (l29 : Int64) (t39 : Int32) (w40 : Int32) xi34
          ) else (
            LETV (v5_78 + 1 : Int32) fun t41 =>
            LETV ((v7_78 + 1) : Int32) fun w42 =>
            L_qx_luck_78_1 v6_69 k_qx_luck_69_0 n (l29 : Int64) (t41 : Int32) (w42 : Int32) xi34
          )
        )
      )
    )
def L_qx_luck_69_0 (vn : Int32) : Nat → (Int64) → (Int32) → (Int32) → (Nat → Nat → Int32) → Int32 × (Nat → Nat → Int32)
  | 0, v3_69, v5_69, v6_69, nu69_ => (0, nu69_)
  | n + 1, v3_69, v5_69, v6_69, nu69_ =>
    if v6_69 ≥ vn then (
      ((v5_69 : Int32), nu69_)
    ) else (
      L_qx_luck_78_1 v6_69 (fun z_v3_69 z_v5_69 z_v6_69 z_nu69_ => L_qx_luck_69_0 vn n z_v3_69 z_v5_69 z_v6_69 z_nu69_) 7 (v3_69 : Int64) (v5_69 : Int32) (0 : Int32) nu69_
    )
def F_qx_luck (mu : Nat → Nat → Int32) (vn : Int32) (vs : Int32) : Int32 × (Nat → Nat → Int32) :=
  if vn < (1 : Int32) then (
    (((-1) : Int32), mu)
  ) else (
    if vn > (40 : Int32) then (
      (((-1) : Int32), mu)
    ) else (
      if vs < (1 : Int32) then (
        (((-1) : Int32), mu)
      ) else (
        LETV ((vs : Int32).toInt64 : Int64) fun l4 =>
        LETV (lg_cmp l4 2147483647 : Int32) fun t5 =>
        if t5 < (0 : Int32) then (
          LETV (mu 4 6 : Int32) fun y7 =>
          if y7 = (0 : Int32) then (
            (((-4) : Int32), mu)
          ) else (
            LETV (mu 5 3 : Int32) fun y9 =>
            LETV (y9 + vn : Int32) fun t10 =>
            if t10 ≤ (99 : Int32) then (
              LETV ((vs : Int32).toInt64 : Int64) fun l12 =>
              L_qx_luck_69_0 vn 43 (l12 : Int64) (0 : Int32) (0 : Int32) mu
            ) else (
              (((-2) : Int32), mu)
            )
          )
        ) else (
          (((-1) : Int32), mu)
        )
      )
    )
  )
