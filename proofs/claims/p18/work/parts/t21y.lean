def L_qm_bundle_33_1 (mu : Nat → Nat → Int32) (v2_14 : Int32) (v3_14 : Int32) (vx : Int32) (k_qm_bundle_14_0 : (Int32) → (Int32) → (Nat → Nat → Int32) → (Int32 × (Nat → Nat → Int32))) : Nat → (Int32) → (Int32) → (Int32) → (Nat → Nat → Int32) → Int32 × (Nat → Nat → Int32)
  | 0, v4_33, v5_33, v6_33, nu33_ => (0, nu33_)
  | n + 1, v4_33, v5_33, v6_33, nu33_ =>
    LETV (nu33_ 0 15 : Int32) fun y8 =>
    if v6_33 ≥ y8 then (
      if v5_33 = (0 : Int32) then (
        LETV ((v3_14 + 1) : Int32) fun w11 =>
        k_qm_bundle_14_0 (v2_14 : Int32) (w11 : Int32) nu33_
      ) else (
        LETV (nu33_ 8 vx.toNatClampNeg : Int32) fun y12 =>
        if v4_33 > y12 then (
          LETV ((v3_14 + 1) : Int32) fun w14 =>
          k_qm_bundle_14_0 (v2_14 : Int32) (w14 : Int32) nu33_
        ) else (
          LETV (F_sm_sizeOf (v3_14 : Int32) : Int32) fun r15 =>
          LETV (F_sm_sizeOf (v2_14 : Int32) : Int32) fun r16 =>
          if r15 ≤ r16 then (
            LETV ((v3_14 + 1) : Int32) fun w18 =>
            k_qm_bundle_14_0 (v2_14 : Int32) (w18 : Int32) nu33_
          ) else (
            LETV ((v3_14 + 1) : Int32) fun w19 =>
            k_qm_bundle_14_0 (v3_14 : Int32) (w19 : Int32) nu33_
          )
        )
      )
    ) else (
      if v5_33 = (0 : Int32) then (
        if F_sm_has (v3_14 : Int32) (v6_33 : Int32) = 1 then (
          LETV (F_sm_priceOf nu33_ (v6_33 : Int32) : Int32) fun r22 =>
          LETV (v4_33 + r22 : Int32) fun t23 =>
          LETV ((v6_33 + 1) : Int32) fun w24 =>
          L_qm_bundle_33_1 mu v2_14 v3_14 vx k_qm_bundle_14_0 n (t23 : Int32) (0 : Int32) (w24 : Int32) nu33_
        ) else (
          LETV (v4_33 + 0 : Int32) fun t25 =>
          LETV ((v6_33 + 1) : Int32) fun w26 =>
          L_qm_bundle_33_1 mu v2_14 v3_14 vx k_qm_bundle_14_0 n (t25 : Int32) (0 : Int32) (w26 : Int32) nu33_
        )
      ) else (
        if F_sm_has (v3_14 : Int32) (v6_33 : Int32) = 1 then (
          LETV (F_sm_canSell nu33_ (v6_33 : Int32) : Int32) fun r28 =>
          if F_sm_has (r28 : Int32) (vx : Int32) = 1 then (
            if F_sm_has (v3_14 : Int32) (v6_33 : Int32) = 1 then (
              LETV (F_sm_priceOf nu33_ (v6_33 : Int32) : Int32) fun r31 =>
              LETV (v4_33 + r31 : Int32) fun t32 =>
              LETV ((v6_33 + 1) : Int32) fun w33 =>
              L_qm_bundle_33_1 mu v2_14 v3_14 vx k_qm_bundle_14_0 n (t32 : Int32) (1 : Int32) (w33 : Int32) nu33_
            ) else (
              (0, mu)
            )
          ) else (
            if F_sm_has (v3_14 : Int32) (v6_33 : Int32) = 1 then (
              LETV (F_sm_priceOf nu33_ (v6_33 : Int32) : Int32) fun r35 =>
              LETV (v4_33 + r35 : Int32) fun t36 =>
              LETV ((v6_33 + 1) : Int32) fun w37 =>
              L_qm_bundle_33_1 mu v2_14 v3_14 vx k_qm_bundle_14_0 n (t36 : Int32) (0 : Int32) (w37 : Int32) nu33_
            ) else (
              (0, mu)
            )
          )
        ) else (
          if F_sm_has (v3_14 : Int32) (v6_33 : Int32) = 1 then (
            (0, mu)
          ) else (
            LETV (v4_33 + 0 : Int32) fun t39 =>
            LETV ((v6_33 + 1) : Int32) fun w40 =>
            L_qm_bundle_33_1 mu v2_14 v3_14 vx k_qm_bundle_14_0 n (t39 : Int32) (1 : Int32) (w40 : Int32) nu33_
          )
        )
      )
    )
def L_qm_bundle_14_0 (mu : Nat → Nat → Int32) (vx : Int32) : Nat → (Int32) → (Int32) → (Nat → Nat → Int32) → Int32 × (Nat → Nat → Int32)
  | 0, v2_14, v3_14, nu14_ => (0, nu14_)
  | n + 1, v2_14, v3_14, nu14_ =>
    LETV (nu14_ 0 15 : Int32) fun y2 =>
    LETV (1 <<< (y2 &&& 31) : Int32) fun t3 =>
    if v3_14 ≥ t3 then (
      LETV (F_sm_sizeOf (v2_14 : Int32) : Int32) fun r5 =>
      LETP (F_sm_ask nu14_ (v2_14 : Int32) (r5 : Int32)) fun r6 xi6 =>
      ((r6 : Int32), xi6)
    ) else (
      L_qm_bundle_33_1 mu v2_14 v3_14 vx (fun z_v2_14 z_v3_14 z_nu14_ => L_qm_bundle_14_0 mu vx n z_v2_14 z_v3_14 z_nu14_) 7 (0 : Int32) (1 : Int32) (0 : Int32) nu14_
    )
def F_qm_bundle (mu : Nat → Nat → Int32) (vx : Int32) : Int32 × (Nat → Nat → Int32) :=
  if F_sm_isOne mu (vx : Int32) = 1 then (
    L_qm_bundle_14_0 mu vx 4099 (0 : Int32) (1 : Int32) mu
  ) else (
    (((-1) : Int32), mu)
  )
def L_sm_buyerAt_4_0 (mu : Nat → Nat → Int32) (vs : Int32) : Nat → (Int32) → Int32
  | 0, v2_4 => 0
  | n + 1, v2_4 =>
    LETV (mu 0 17 : Int32) fun y2 =>
    if v2_4 ≥ y2 then (
      LETV (12 * vs : Int32) fun t4 =>
      LETV (mu 14 t4.toNatClampNeg : Int32) fun y6 =>
      LETV (F_sm_letterOf5 mu (y6 : Int32) : Int32) fun r7 =>
      (r7 : Int32)
    ) else (
      LETV (12 * v2_4 : Int32) fun t8 =>
      LETV (mu 14 t8.toNatClampNeg : Int32) fun y10 =>
      LETV (12 * vs : Int32) fun t11 =>
      LETV (mu 14 t11.toNatClampNeg : Int32) fun y13 =>
      if y10 = y13 then (
        LETV (12 * v2_4 : Int32) fun t16 =>
        LETV (t16 + 1 : Int32) fun t17 =>
        LETV (mu 14 t17.toNatClampNeg : Int32) fun y19 =>
        (y19 : Int32)
      ) else (
        LETV ((v2_4 + 1) : Int32) fun w15 =>
        L_sm_buyerAt_4_0 mu vs n (w15 : Int32)
      )
    )
def F_sm_buyerAt (mu : Nat → Nat → Int32) (vs : Int32) : Int32 :=
  LETV (vs + 1 : Int32) fun t1 =>
  L_sm_buyerAt_4_0 mu vs 43 (t1 : Int32)
def L_qm_gain_14_0 (vx : Int32) : Nat → (Int32) → (Int32) → (Nat → Nat → Int32) → Int32 × (Nat → Nat → Int32)
  | 0, v2_14, v3_14, nu14_ => (0, nu14_)
  | n + 1, v2_14, v3_14, nu14_ =>
    LETV (nu14_ 0 17 : Int32) fun y2 =>
    if v3_14 ≥ y2 then (
      LETP (F_sm_ask nu14_ (v2_14 : Int32) (1 : Int32)) fun r4 xi4 =>
      ((r4 : Int32), xi4)
    ) else (
      LETV (12 * v3_14 : Int32) fun t6 =>
      LETV (t6 + 1 : Int32) fun t7 =>
      LETV (nu14_ 14 t7.toNatClampNeg : Int32) fun y9 =>
      if y9 = vx then (
        LETV (12 * v3_14 : Int32) fun t22 =>
        LETV (t22 + 4 : Int32) fun t23 =>
        LETV (nu14_ 14 t23.toNatClampNeg : Int32) fun y25 =>
        LETV (v2_14 + y25 : Int32) fun t26 =>
        LETV (F_sm_buyerAt nu14_ (v3_14 : Int32) : Int32) fun r27 =>
        if r27 = vx then (
          LETV (12 * v3_14 : Int32) fun t31 =>
          LETV (t31 + 4 : Int32) fun t32 =>
          LETV (nu14_ 14 t32.toNatClampNeg : Int32) fun y34 =>
          LETV (t26 - y34 : Int32) fun t35 =>
          LETV ((v3_14 + 1) : Int32) fun w36 =>
          L_qm_gain_14_0 vx n (t35 : Int32) (w36 : Int32) nu14_
        ) else (
          LETV (t26 - 0 : Int32) fun t29 =>
          LETV ((v3_14 + 1) : Int32) fun w30 =>
          L_qm_gain_14_0 vx n (t29 : Int32) (w30 : Int32) nu14_
        )
      ) else (
        LETV (v2_14 + 0 : Int32) fun t11 =>
        LETV (F_sm_buyerAt nu14_ (v3_14 : Int32) : Int32) fun r12 =>
        if r12 = vx then (
          LETV (12 * v3_14 : Int32) fun t16 =>
          LETV (t16 + 4 : Int32) fun t17 =>
          LETV (nu14_ 14 t17.toNatClampNeg : Int32) fun y19 =>
          LETV (t11 - y19 : Int32) fun t20 =>
          LETV ((v3_14 + 1) : Int32) fun w21 =>
          L_qm_gain_14_0 vx n (t20 : Int32) (w21 : Int32) nu14_
        ) else (
          LETV (t11 - 0 : Int32) fun t14 =>
          LETV ((v3_14 + 1) : Int32) fun w15 =>
          L_qm_gain_14_0 vx n (t14 : Int32) (w15 : Int32) nu14_
        )
      )
    )
def F_qm_gain (mu : Nat → Nat → Int32) (vx : Int32) : Int32 × (Nat → Nat → Int32) :=
  if F_sm_isOne mu (vx : Int32) = 1 then (
    L_qm_gain_14_0 vx 43 (0 : Int32) (0 : Int32) mu
  ) else (
    (((-1) : Int32), mu)
  )
