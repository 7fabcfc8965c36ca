def F_sx_bitCount (va : Int32) : Int32 :=
  LETV (((va : Int32).toUInt32 >>> ((1 : Int32).toUInt32 &&& Int32.toUInt32 31)).toInt32 : Int32) fun t1 =>
  LETV (t1 &&& 1431655765 : Int32) fun t2 =>
  LETV (va - t2 : Int32) fun t3 =>
  LETV (t3 &&& 858993459 : Int32) fun t4 =>
  LETV (((t3 : Int32).toUInt32 >>> ((2 : Int32).toUInt32 &&& Int32.toUInt32 31)).toInt32 : Int32) fun t5 =>
  LETV (t5 &&& 858993459 : Int32) fun t6 =>
  LETV (t4 + t6 : Int32) fun t7 =>
  LETV (((t7 : Int32).toUInt32 >>> ((4 : Int32).toUInt32 &&& Int32.toUInt32 31)).toInt32 : Int32) fun t8 =>
  LETV (t7 + t8 : Int32) fun t9 =>
  LETV (t9 &&& 252645135 : Int32) fun t10 =>
  LETV (((t10 : Int32).toUInt32 >>> ((8 : Int32).toUInt32 &&& Int32.toUInt32 31)).toInt32 : Int32) fun t11 =>
  LETV (t10 + t11 : Int32) fun t12 =>
  LETV (((t12 : Int32).toUInt32 >>> ((16 : Int32).toUInt32 &&& Int32.toUInt32 31)).toInt32 : Int32) fun t13 =>
  LETV (t12 + t13 : Int32) fun t14 =>
  LETV (t14 &&& 63 : Int32) fun t15 =>
  (t15 : Int32)
def L_sx_commonDivisor_9_0 : Nat → (Int64) → (Int64) → (Int32) → Int64
  | 0, v4_9, v6_9, v8_9 => 0
  | n + 1, v4_9, v6_9, v8_9 =>
    if v8_9 ≥ (128 : Int32) then (
      (v4_9 : Int64)
    ) else (
      LETV (lg_cmp v6_9 0 : Int32) fun t2 =>
      if t2 = (0 : Int32) then (
        (v4_9 : Int64)
      ) else (
        LETV (v4_9 - v4_9 / v6_9 * v6_9 : Int64) fun l4 =>
        LETV ((v8_9 + 1) : Int32) fun w5 =>
        L_sx_commonDivisor_9_0 n (v6_9 : Int64) (l4 : Int64) (w5 : Int32)
      )
    )
def F_sx_commonDivisor (la : Int64) (lb : Int64) : Int64 :=
  L_sx_commonDivisor_9_0 131 (la : Int64) (lb : Int64) (0 : Int32)
def L_sx_richestPurse_4_0 (mu : Nat → Nat → Int32) : Nat → (Int64) → (Int32) → Int64
  | 0, v1_4, v3_4 => 0
  | n + 1, v1_4, v3_4 =>
    LETV (mu 4 6 : Int32) fun y1 =>
    if v3_4 ≥ y1 then (
      (v1_4 : Int64)
    ) else (
      LETV (mu 46 v3_4.toNatClampNeg : Int32) fun y3 =>
      LETV ((y3 : Int32).toInt64 : Int64) fun l4 =>
      LETV (if l4 < v1_4 then v1_4 else l4 : Int64) fun t5 =>
      LETV ((v3_4 + 1) : Int32) fun w6 =>
      L_sx_richestPurse_4_0 mu n (t5 : Int64) (w6 : Int32)
    )
def F_sx_richestPurse (mu : Nat → Nat → Int32) : Int64 :=
  L_sx_richestPurse_4_0 mu 10 (0 : Int64) (0 : Int32)
def L_sx_allPurses_4_0 (mu : Nat → Nat → Int32) : Nat → (Int64) → (Int32) → Int64
  | 0, v1_4, v3_4 => 0
  | n + 1, v1_4, v3_4 =>
    LETV (mu 4 6 : Int32) fun y1 =>
    if v3_4 ≥ y1 then (
      (v1_4 : Int64)
    ) else (
      LETV (mu 46 v3_4.toNatClampNeg : Int32) fun y3 =>
      LETV ((y3 : Int32).toInt64 : Int64) fun l4 =>
      LETV (v1_4 + l4 : Int64) fun l5 =>
      LETV ((v3_4 + 1) : Int32) fun w6 =>
      L_sx_allPurses_4_0 mu n (l5 : Int64) (w6 : Int32)
    )
def F_sx_allPurses (mu : Nat → Nat → Int32) : Int64 :=
  L_sx_allPurses_4_0 mu 10 (0 : Int64) (0 : Int32)
def L_sx_unreadWith_4_0 (mu : Nat → Nat → Int32) (vx : Int32) : Nat → (Int32) → (Int32) → Int32
  | 0, v2_4, v3_4 => 0
  | n + 1, v2_4, v3_4 =>
    LETV (mu 5 4 : Int32) fun y1 =>
    if v3_4 ≥ y1 then (
      (v2_4 : Int32)
    ) else (
      LETV (mu (61 + v3_4.toNatClampNeg) 5 : Int32) fun y4 =>
      if y4 = vx then (
        LETV (mu (61 + v3_4.toNatClampNeg) 9 : Int32) fun y9 =>
        if y9 = (0 : Int32) then (
          LETV (v2_4 + 1 : Int32) fun t13 =>
          LETV ((v3_4 + 1) : Int32) fun w14 =>
          L_sx_unreadWith_4_0 mu vx n (t13 : Int32) (w14 : Int32)
        ) else (
          LETV (v2_4 + 0 : Int32) fun t11 =>
          LETV ((v3_4 + 1) : Int32) fun w12 =>
          L_sx_unreadWith_4_0 mu vx n (t11 : Int32) (w12 : Int32)
        )
      ) else (
        LETV (v2_4 + 0 : Int32) fun t6 =>
        LETV ((v3_4 + 1) : Int32) fun w7 =>
        L_sx_unreadWith_4_0 mu vx n (t6 : Int32) (w7 : Int32)
      )
    )
def F_sx_unreadWith (mu : Nat → Nat → Int32) (vx : Int32) : Int32 :=
  L_sx_unreadWith_4_0 mu vx 7 (0 : Int32) (0 : Int32)
def L_sx_unreadTo_4_0 (mu : Nat → Nat → Int32) (vx : Int32) : Nat → (Int32) → (Int32) → Int32
  | 0, v2_4, v3_4 => 0
  | n + 1, v2_4, v3_4 =>
    LETV (mu 5 4 : Int32) fun y1 =>
    if v3_4 ≥ y1 then (
      (v2_4 : Int32)
    ) else (
      LETV (mu (61 + v3_4.toNatClampNeg) 1 : Int32) fun y4 =>
      if y4 = vx then (
        LETV (mu (61 + v3_4.toNatClampNeg) 9 : Int32) fun y9 =>
        if y9 = (0 : Int32) then (
          LETV (v2_4 + 1 : Int32) fun t13 =>
          LETV ((v3_4 + 1) : Int32) fun w14 =>
          L_sx_unreadTo_4_0 mu vx n (t13 : Int32) (w14 : Int32)
        ) else (
          LETV (v2_4 + 0 : Int32) fun t11 =>
          LETV ((v3_4 + 1) : Int32) fun w12 =>
          L_sx_unreadTo_4_0 mu vx n (t11 : Int32) (w12 : Int32)
        )
      ) else (
        LETV (v2_4 + 0 : Int32) fun t6 =>
        LETV ((v3_4 + 1) : Int32) fun w7 =>
        L_sx_unreadTo_4_0 mu vx n (t6 : Int32) (w7 : Int32)
      )
    )
def F_sx_unreadTo (mu : Nat → Nat → Int32) (vx : Int32) : Int32 :=
  L_sx_unreadTo_4_0 mu vx 7 (0 : Int32) (0 : Int32)
def L_sx_paidForUnread_4_0 (mu : Nat → Nat → Int32) (vx : Int32) : Nat → (Int32) → (Int32) → Int32
  | 0, v2_4, v3_4 => 0
  | n + 1, v2_4, v3_4 =>
    LETV (mu 5 4 : Int32) fun y1 =>
    if v3_4 ≥ y1 then (
      (v2_4 : Int32)
    ) else (
      LETV (mu (61 + v3_4.toNatClampNeg) 5 : Int32) fun y4 =>
      if y4 = vx then (
        LETV (mu (61 + v3_4.toNatClampNeg) 9 : Int32) fun y9 =>
        if y9 = (0 : Int32) then (
          LETV (mu (61 + v3_4.toNatClampNeg) 6 : Int32) fun y14 =>
          LETV (v2_4 + y14 : Int32) fun t15 =>
          LETV ((v3_4 + 1) : Int32) fun w16 =>
          L_sx_paidForUnread_4_0 mu vx n (t15 : Int32) (w16 : Int32)
        ) else (
          LETV (v2_4 + 0 : Int32) fun t11 =>
          LETV ((v3_4 + 1) : Int32) fun w12 =>
          L_sx_paidForUnread_4_0 mu vx n (t11 : Int32) (w12 : Int32)
        )
      ) else (
        LETV (v2_4 + 0 : Int32) fun t6 =>
        LETV ((v3_4 + 1) : Int32) fun w7 =>
        L_sx_paidForUnread_4_0 mu vx n (t6 : Int32) (w7 : Int32)
      )
    )
def F_sx_paidForUnread (mu : Nat → Nat → Int32) (vx : Int32) : Int32 :=
  L_sx_paidForUnread_4_0 mu vx 7 (0 : Int32) (0 : Int32)
def L_sx_friendsNear_18_0 (mu : Nat → Nat → Int32) (r2 : Int32) : Nat → (Int32) → (Int32) → Int32
  | 0, v3_18, v4_18 => 0
  | n + 1, v3_18, v4_18 =>
    LETV (mu 4 6 : Int32) fun y3 =>
    if v4_18 ≥ y3 then (
      (v3_18 : Int32)
    ) else (
      LETV (F_sx_hasBit (r2 : Int32) (v4_18 : Int32) : Int32) fun r5 =>
      if r5 = (0 : Int32) then (
        LETV (v3_18 + 0 : Int32) fun t7 =>
        LETV ((v4_18 + 1) : Int32) fun w8 =>
        L_sx_friendsNear_18_0 mu r2 n (t7 : Int32) (w8 : Int32)
      ) else (
        LETV (mu 34 v4_18.toNatClampNeg : Int32) fun y9 =>
        LETV (F_sx_isOfKind (y9 : Int32) (2 : Int32) : Int32) fun r10 =>
        if r10 = (0 : Int32) then (
          LETV (v3_18 + 0 : Int32) fun t12 =>
          LETV ((v4_18 + 1) : Int32) fun w13 =>
          L_sx_friendsNear_18_0 mu r2 n (t12 : Int32) (w13 : Int32)
        ) else (
          LETV (v3_18 + 1 : Int32) fun t14 =>
          LETV ((v4_18 + 1) : Int32) fun w15 =>
          L_sx_friendsNear_18_0 mu r2 n (t14 : Int32) (w15 : Int32)
        )
      )
    )
def F_sx_friendsNear (mu : Nat → Nat → Int32) (vx : Int32) : Int32 :=
  LETV (mu 5 2 : Int32) fun y1 =>
  LETV (F_sx_near mu (vx : Int32) (y1 : Int32) : Int32) fun r2 =>
  L_sx_friendsNear_18_0 mu r2 10 (0 : Int32) (0 : Int32)
def L_sx_gainOf_4_0 (mu : Nat → Nat → Int32) (vx : Int32) : Nat → (Int32) → (Int32) → Int32
  | 0, v2_4, v3_4 => 0
  | n + 1, v2_4, v3_4 =>
    LETV (mu 6 1 : Int32) fun y1 =>
    if v3_4 ≥ y1 then (
      (v2_4 : Int32)
    ) else (
      LETV (mu (77 + v3_4.toNatClampNeg) 2 : Int32) fun y4 =>
      if y4 = vx then (
        LETV (mu (77 + v3_4.toNatClampNeg) 4 : Int32) fun y17 =>
        LETV (v2_4 + y17 : Int32) fun t18 =>
        LETV (mu (77 + v3_4.toNatClampNeg) 3 : Int32) fun y20 =>
        if y20 = vx then (
          LETV (t18 - y17 : Int32) fun t25 =>
          LETV ((v3_4 + 1) : Int32) fun w26 =>
          L_sx_gainOf_4_0 mu vx n (t25 : Int32) (w26 : Int32)
        ) else (
          LETV (t18 - 0 : Int32) fun t22 =>
          LETV ((v3_4 + 1) : Int32) fun w23 =>
          L_sx_gainOf_4_0 mu vx n (t22 : Int32) (w23 : Int32)
        )
      ) else (
        LETV (v2_4 + 0 : Int32) fun t6 =>
        LETV (mu (77 + v3_4.toNatClampNeg) 3 : Int32) fun y8 =>
        if y8 = vx then (
          LETV (mu (77 + v3_4.toNatClampNeg) 4 : Int32) fun y13 =>
          LETV (t6 - y13 : Int32) fun t14 =>
          LETV ((v3_4 + 1) : Int32) fun w15 =>
          L_sx_gainOf_4_0 mu vx n (t14 : Int32) (w15 : Int32)
        ) else (
          LETV (t6 - 0 : Int32) fun t10 =>
          LETV ((v3_4 + 1) : Int32) fun w11 =>
          L_sx_gainOf_4_0 mu vx n (t10 : Int32) (w11 : Int32)
        )
      )
    )
def F_sx_gainOf (mu : Nat → Nat → Int32) (vx : Int32) : Int32 :=
  L_sx_gainOf_4_0 mu vx 43 (0 : Int32) (0 : Int32)
def L_sx_bitAt_4_0 (va : Int32) : Nat → (Int32) → (Int32) → Int32
  | 0, v2_4, v3_4 => 0
  | n + 1, v2_4, v3_4 =>
    if v3_4 ≥ (7 : Int32) then (
      (0 : Int32)
    ) else (
      LETV (F_sx_hasBit (va : Int32) (v3_4 : Int32) : Int32) fun r2 =>
      if r2 = (0 : Int32) then (
        LETV ((v3_4 + 1) : Int32) fun w7 =>
        L_sx_bitAt_4_0 va n (v2_4 : Int32) (w7 : Int32)
      ) else (
        if v2_4 = (0 : Int32) then (
          (v3_4 : Int32)
        ) else (
          LETV ((v2_4 + (-1)) : Int32) fun w5 =>
          LETV ((v3_4 + 1) : Int32) fun w6 =>
          L_sx_bitAt_4_0 va n (w5 : Int32) (w6 : Int32)
        )
      )
    )
def F_sx_bitAt (va : Int32) (vb : Int32) : Int32 :=
  L_sx_bitAt_4_0 va 10 (vb : Int32) (0 : Int32)
