def L_qm_luck_128_2 (l27 : Int64) (mu : Nat → Nat → Int32) (r19 : Int32) (v5_65 : Int32) (v7_65 : Int32) (k_qm_luck_65_1 : (Int64) → (Int32) → (Int32) → (Nat → Nat → Int32) → (Int32 × (Nat → Nat → Int32))) : Nat → (Int32) → (Int32) → (Nat → Nat → Int32) → Int32 × (Nat → Nat → Int32)
  | 0, v9_128, v10_128, nu128_ => (0, nu128_)
  | n + 1, v9_128, v10_128, nu128_ =>
    if F_sm_has (r19 : Int32) (v10_128 : Int32) = 1 then (
      if v9_128 ≤ (0 : Int32) then (
        LETV (F_sm_sellTo nu128_ (v7_65 : Int32) (v10_128 : Int32) : Nat → Nat → Int32) fun xi35 =>
        LETV (F_sm_letterOf xi35 (v7_65 : Int32) (9 : Int32) : Int32) fun r37 =>
        LETV (v5_65 + r37 : Int32) fun t38 =>
        LETV ((v7_65 + 1) : Int32) fun w39 =>
        k_qm_luck_65_1 (l27 : Int64) (t38 : Int32) (w39 : Int32) xi35
      ) else (
        if F_sm_has (r19 : Int32) (v10_128 : Int32) = 1 then (
          LETV (v9_128 - 1 : Int32) fun t41 =>
          LETV ((v10_128 + 1) : Int32) fun w42 =>
          L_qm_luck_128_2 l27 mu r19 v5_65 v7_65 k_qm_luck_65_1 n (t41 : Int32) (w42 : Int32) nu128_
        ) else (
          (0, mu)
        )
      )
    ) else (
      if F_sm_has (r19 : Int32) (v10_128 : Int32) = 1 then (
        (0, mu)
      ) else (
        LETV (v9_128 - 0 : Int32) fun t44 =>
        LETV ((v10_128 + 1) : Int32) fun w45 =>
        L_qm_luck_128_2 l27 mu r19 v5_65 v7_65 k_qm_luck_65_1 n (t44 : Int32) (w45 : Int32) nu128_
      )
    )
def L_qm_luck_65_1 (mu : Nat → Nat → Int32) (v6_56 : Int32) (k_qm_luck_56_0 : (Int64) → (Int32) → (Int32) → (Nat → Nat → Int32) → (Int32 × (Nat → Nat → Int32))) : Nat → (Int64) → (Int32) → (Int32) → (Nat → Nat → Int32) → Int32 × (Nat → Nat → Int32)
  | 0, v3_65, v5_65, v7_65, nu65_ => (0, nu65_)
  | n + 1, v3_65, v5_65, v7_65, nu65_ =>
    LETV (nu65_ 0 15 : Int32) fun y10 =>
    if v7_65 ≥ y10 then (
      LETV (nu65_ 0 14 : Int32) fun y12 =>
      LETV (y12 + 1 : Int32) fun t13 =>
      LETV (va_up nu65_ 0 (upd (nu65_ 0) 14 t13) : Nat → Nat → Int32) fun nu14 =>
      LETV ((v6_56 + 1) : Int32) fun w18 =>
      k_qm_luck_56_0 (v3_65 : Int64) (v5_65 : Int32) (w18 : Int32) nu14
    ) else (
      LETV (F_sm_canSell nu65_ (v7_65 : Int32) : Int32) fun r19 =>
      if r19 = (0 : Int32) then (
        LETV ((v7_65 + 1) : Int32) fun w22 =>
        L_qm_luck_65_1 mu v6_56 k_qm_luck_56_0 n (v3_65 : Int64) (v5_65 : Int32) (w22 : Int32) nu65_
      ) else (
        LETV (nu65_ 0 17 : Int32) fun y23 =>
        if y23 = (40 : Int32) then (
          ((v5_65 : Int32), nu65_)
        ) else (
          LETV (48271 * v3_65 : Int64) fun l26 =>
          LETV (l26 - l26 / 2147483647 * 2147483647 : Int64) fun l27 =>
          LETV (F_sm_sizeOf (r19 : Int32) : Int32) fun r28 =>
          LETV ((r28 : Int32).toInt64 : Int64) fun l29 =>
          LETV (l27 - l27 / l29 * l29 : Int64) fun l30 =>
          LETV ((l30 : Int64).toInt32 : Int32) fun t31 =>
          L_qm_luck_128_2 l27 mu r19 v5_65 v7_65 (fun z_v3_65 z_v5_65 z_v7_65 z_nu65_ => L_qm_luck_65_1 mu v6_56 k_qm_luck_56_0 n z_v3_65 z_v5_65 z_v7_65 z_nu65_) 10 (t31 : Int32) (0 : Int32) nu65_
        )
      )
    )
def L_qm_luck_56_0 (mu : Nat → Nat → Int32) (vn : Int32) : Nat → (Int64) → (Int32) → (Int32) → (Nat → Nat → Int32) → Int32 × (Nat → Nat → Int32)
  | 0, v3_56, v5_56, v6_56, nu56_ => (0, nu56_)
  | n + 1, v3_56, v5_56, v6_56, nu56_ =>
    if v6_56 ≥ vn then (
      ((v5_56 : Int32), nu56_)
    ) else (
      L_qm_luck_65_1 mu v6_56 (fun z_v3_56 z_v5_56 z_v6_56 z_nu56_ => L_qm_luck_56_0 mu vn n z_v3_56 z_v5_56 z_v6_56 z_nu56_) 7 (v3_56 : Int64) (v5_56 : Int32) (0 : Int32) nu56_
    )
def F_qm_luck (mu : Nat → Nat → Int32) (vn : Int32) (vs : Int32) : Int32 × (Nat → Nat → Int32) :=
  if F_sm_in (vn : Int32) (1 : Int32) (40 : Int32) = 1 then (
    if F_sm_in (vs : Int32) (1 : Int32) (2147483646 : Int32) = 1 then (
      LETV (mu 0 8 : Int32) fun y3 =>
      if y3 = (0 : Int32) then (
        (((-4) : Int32), mu)
      ) else (
        LETV (mu 0 14 : Int32) fun y5 =>
        LETV (y5 + vn : Int32) fun t6 =>
        if t6 ≤ (99 : Int32) then (
          LETV ((vs : Int32).toInt64 : Int64) fun l8 =>
          L_qm_luck_56_0 mu vn 43 (l8 : Int64) (0 : Int32) (0 : Int32) mu
        ) else (
          (((-2) : Int32), mu)
        )
      )
    ) else (
      (((-1) : Int32), mu)
    )
  ) else (
    (((-1) : Int32), mu)
  )
