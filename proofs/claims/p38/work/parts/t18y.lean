def L_sm_routeOn7_34_0 (mu : Nat → Nat → Int32) (t8 : Int32) : Nat → (Int32) → (Nat → Nat → Int32) → Nat → Nat → Int32
  | 0, v7_34, nu34_ => nu34_
  | n + 1, v7_34, nu34_ =>
    LETV (nu34_ 0 39 : Int32) fun y9 =>
    LETV (nu34_ 0 33 : Int32) fun y10 =>
    LETV (nu34_ 0 35 : Int32) fun y11 =>
    LETV (nu34_ 0 8 : Int32) fun y12 =>
    if v7_34 ≥ y12 then (
      nu34_
    ) else (
      if F_sm_has (t8 : Int32) (v7_34 : Int32) = 1 then (
        mu
      ) else (
        LETV ((v7_34 + 1) : Int32) fun w18 =>
        L_sm_routeOn7_34_0 mu t8 n (w18 : Int32) nu34_
      )
    )
def F_sm_routeOn7 (mu : Nat → Nat → Int32) (vh : Int32) (vp : Int32) : Nat → Nat → Int32 :=
  LETV (mu 0 39 : Int32) fun y1 =>
  LETV (mu 0 33 : Int32) fun y2 =>
  LETV (mu 0 35 : Int32) fun y3 =>
  LETV (mu 16 (6 : Int32).toNatClampNeg : Int32) fun y4 =>
  LETV (F_sm_asksOf mu (y4 : Int32) (vp : Int32) : Int32) fun r5 =>
  LETV (F_sm_besideOf mu (y4 : Int32) : Int32) fun r6 =>
  LETV (vh ^^^ (-1) : Int32) fun t7 =>
  LETV (r6 &&& t7 : Int32) fun t8 =>
  L_sm_routeOn7_34_0 mu t8 10 (0 : Int32) mu
def L_sm_routeOn6_34_0 (r5 : Int32) (t8 : Int32) (vh : Int32) : Nat → (Int32) → (Nat → Nat → Int32) → Nat → Nat → Int32
  | 0, v7_34, nu34_ => nu34_
  | n + 1, v7_34, nu34_ =>
    LETV (nu34_ 0 39 : Int32) fun y9 =>
    LETV (nu34_ 0 33 : Int32) fun y10 =>
    LETV (nu34_ 0 35 : Int32) fun y11 =>
    LETV (nu34_ 0 8 : Int32) fun y12 =>
    if v7_34 ≥ y12 then (
      nu34_
    ) else (
      if F_sm_has (t8 : Int32) (v7_34 : Int32) = 1 then (
        LETV (nu34_ 0 38 : Int32) fun y18 =>
        if y18 = (0 : Int32) then (
          LETV (va_up nu34_ 16 (upd (nu34_ 16) (6 : Int32).toNatClampNeg v7_34) : Nat → Nat → Int32) fun nu20 =>
          LETV (nu20 0 29 : Int32) fun y27 =>
          if v7_34 = y27 then (
            LETV (nu20 16 (0 : Int32).toNatClampNeg : Int32) fun y49 =>
            LETV (1 <<< (y49 &&& 31) : Int32) fun t50 =>
            LETV (t50 ^^^ (-1) : Int32) fun t51 =>
            LETV (vh &&& t51 : Int32) fun t52 =>
            LETV (F_sm_meetRoute nu20 (7 : Int32) (t52 : Int32) (r5 : Int32) : Nat → Nat → Int32) fun xi56 =>
            LETV (xi56 0 39 : Int32) fun y58 =>
            LETV (xi56 0 33 : Int32) fun y59 =>
            LETV (xi56 0 35 : Int32) fun y60 =>
            LETV ((v7_34 + 1) : Int32) fun w61 =>
            L_sm_routeOn6_34_0 r5 t8 vh n (w61 : Int32) xi56
          ) else (
            LETV (nu20 7 v7_34.toNatClampNeg : Int32) fun y29 =>
            if y29 = (3 : Int32) then (
              LETV ((v7_34 + 1) : Int32) fun w31 =>
              L_sm_routeOn6_34_0 r5 t8 vh n (w31 : Int32) nu20
            ) else (
              LETV (1 <<< (v7_34 &&& 31) : Int32) fun t35 =>
              LETV (vh ||| t35 : Int32) fun t36 =>
              LETV (F_sm_routeOn7 nu20 (t36 : Int32) (r5 : Int32) : Nat → Nat → Int32) fun xi40 =>
              LETV (xi40 0 39 : Int32) fun y42 =>
              LETV (xi40 0 33 : Int32) fun y43 =>
              LETV (xi40 0 35 : Int32) fun y44 =>
              LETV ((v7_34 + 1) : Int32) fun w45 =>
              L_sm_routeOn6_34_0 r5 t8 vh n (w45 : Int32) xi40
            )
          )
        ) else (
          LETV (nu34_ 8 v7_34.toNatClampNeg : Int32) fun y65 =>
          if y65 < r5 then (
            LETV ((v7_34 + 1) : Int32) fun w67 =>
            L_sm_routeOn6_34_0 r5 t8 vh n (w67 : Int32) nu34_
          ) else (
            LETV (va_up nu34_ 16 (upd (nu34_ 16) (6 : Int32).toNatClampNeg v7_34) : Nat → Nat → Int32) fun nu71 =>
            LETV (nu71 0 29 : Int32) fun y79 =>
            if v7_34 = y79 then (
              LETV (nu71 16 (0 : Int32).toNatClampNeg : Int32) fun y101 =>
              LETV (1 <<< (y101 &&& 31) : Int32) fun t102 =>
              LETV (t102 ^^^ (-1) : Int32) fun t103 =>
              LETV (vh &&& t103 : Int32) fun t104 =>
              LETV (F_sm_meetRoute nu71 (7 : Int32) (t104 : Int32) (r5 : Int32) : Nat → Nat → Int32) fun xi108 =>
              LETV (xi108 0 39 : Int32) fun y110 =>
              LETV (xi108 0 33 : Int32) fun y111 =>
              LETV (xi108 0 35 : Int32) fun y112 =>
              LETV ((v7_34 + 1) : Int32) fun w113 =>
              L_sm_routeOn6_34_0 r5 t8 vh n (w113 : Int32) xi108
            ) else (
              LETV (nu71 7 v7_34.toNatClampNeg : Int32) fun y81 =>
              if y81 = (3 : Int32) then (
                LETV ((v7_34 + 1) : Int32) fun w83 =>
                L_sm_routeOn6_34_0 r5 t8 vh n (w83 : Int32) nu71
              ) else (
                LETV (1 <<< (v7_34 &&& 31) : Int32) fun t87 =>
                LETV (vh ||| t87 : Int32) fun t88 =>
                LETV (F_sm_routeOn7 nu71 (t88 : Int32) (r5 : Int32) : Nat → Nat → Int32) fun xi92 =>
                LETV (xi92 0 39 : Int32) fun y94 =>
                LETV (xi92 0 33 : Int32) fun y95 =>
                LETV (xi92 0 35 : Int32) fun y96 =>
                LETV ((v7_34 + 1) : Int32) fun w97 =>
                L_sm_routeOn6_34_0 r5 t8 vh n (w97 : Int32) xi92
              )
            )
          )
        )
      ) else (
        LETV ((v7_34 + 1) : Int32) fun w117 =>
        L_sm_routeOn6_34_0 r5 t8 vh n (w117 : Int32) nu34_
      )
    )
def F_sm_routeOn6 (mu : Nat → Nat → Int32) (vh : Int32) (vp : Int32) : Nat → Nat → Int32 :=
  LETV (mu 0 39 : Int32) fun y1 =>
  LETV (mu 0 33 : Int32) fun y2 =>
  LETV (mu 0 35 : Int32) fun y3 =>
  LETV (mu 16 (5 : Int32).toNatClampNeg : Int32) fun y4 =>
  LETV (F_sm_asksOf mu (y4 : Int32) (vp : Int32) : Int32) fun r5 =>
  LETV (F_sm_besideOf mu (y4 : Int32) : Int32) fun r6 =>
  LETV (vh ^^^ (-1) : Int32) fun t7 =>
  LETV (r6 &&& t7 : Int32) fun t8 =>
  L_sm_routeOn6_34_0 r5 t8 vh 10 (0 : Int32) mu
def L_sm_routeOn5_34_0 (r5 : Int32) (t8 : Int32) (vh : Int32) : Nat → (Int32) → (Nat → Nat → Int32) → Nat → Nat → Int32
  | 0, v7_34, nu34_ => nu34_
  | n + 1, v7_34, nu34_ =>
    LETV (nu34_ 0 39 : Int32) fun y9 =>
    LETV (nu34_ 0 33 : Int32) fun y10 =>
    LETV (nu34_ 0 35 : Int32) fun y11 =>
    LETV (nu34_ 0 8 : Int32) fun y12 =>
    if v7_34 ≥ y12 then (
      nu34_
    ) else (
      if F_sm_has (t8 : Int32) (v7_34 : Int32) = 1 then (
        LETV (nu34_ 0 38 : Int32) fun y18 =>
        if y18 = (0 : Int32) then (
          LETV (va_up nu34_ 16 (upd (nu34_ 16) (5 : Int32).toNatClampNeg v7_34) : Nat → Nat → Int32) fun nu20 =>
          LETV (nu20 0 29 : Int32) fun y27 =>
          if v7_34 = y27 then (
            LETV (nu20 16 (0 : Int32).toNatClampNeg : Int32) fun y49 =>
            LETV (1 <<< (y49 &&& 31) : Int32) fun t50 =>
            LETV (t50 ^^^ (-1) : Int32) fun t51 =>
            LETV (vh &&& t51 : Int32) fun t52 =>
            LETV (F_sm_meetRoute nu20 (6 : Int32) (t52 : Int32) (r5 : Int32) : Nat → Nat → Int32) fun xi56 =>
            LETV (xi56 0 39 : Int32) fun y58 =>
            LETV (xi56 0 33 : Int32) fun y59 =>
            LETV (xi56 0 35 : Int32) fun y60 =>
            LETV ((v7_34 + 1) : Int32) fun w61 =>
            L_sm_routeOn5_34_0 r5 t8 vh n (w61 : Int32) xi56
          ) else (
            LETV (nu20 7 v7_34.toNatClampNeg : Int32) fun y29 =>
            if y29 = (3 : Int32) then (
              LETV ((v7_34 + 1) : Int32) fun w31 =>
              L_sm_routeOn5_34_0 r5 t8 vh n (w31 : Int32) nu20
            ) else (
              LETV (1 <<< (v7_34 &&& 31) : Int32) fun t35 =>
              LETV (vh ||| t35 : Int32) fun t36 =>
              LETV (F_sm_routeOn6 nu20 (t36 : Int32) (r5 : Int32) : Nat → Nat → Int32) fun xi40 =>
              LETV (xi40 0 39 : Int32) fun y42 =>
              LETV (xi40 0 33 : Int32) fun y43 =>
              LETV (xi40 0 35 : Int32) fun y44 =>
              LETV ((v7_34 + 1) : Int32) fun w45 =>
              L_sm_routeOn5_34_0 r5 t8 vh n (w45 : Int32) xi40
            )
          )
        ) else (
          LETV (nu34_ 8 v7_34.toNatClampNeg : Int32) fun y65 =>
          if y65 < r5 then (
            LETV ((v7_34 + 1) : Int32) fun w67 =>
            L_sm_routeOn5_34_0 r5 t8 vh n (w67 : Int32) nu34_
          ) else (
            LETV (va_up nu34_ 16 (upd (nu34_ 16) (5 : Int32).toNatClampNeg v7_34) : Nat → Nat → Int32) fun nu71 =>
            LETV (nu71 0 29 : Int32) fun y79 =>
            if v7_34 = y79 then (
              LETV (nu71 16 (0 : Int32).toNatClampNeg : Int32) fun y101 =>
              LETV (1 <<< (y101 &&& 31) : Int32) fun t102 =>
              LETV (t102 ^^^ (-1) : Int32) fun t103 =>
              LETV (vh &&& t103 : Int32) fun t104 =>
              LETV (F_sm_meetRoute nu71 (6 : Int32) (t104 : Int32) (r5 : Int32) : Nat → Nat → Int32) fun xi108 =>
              LETV (xi108 0 39 : Int32) fun y110 =>
              LETV (xi108 0 33 : Int32) fun y111 =>
              LETV (xi108 0 35 : Int32) fun y112 =>
              LETV ((v7_34 + 1) : Int32) fun w113 =>
              L_sm_routeOn5_34_0 r5 t8 vh n (w113 : Int32) xi108
            ) else (
              LETV (nu71 7 v7_34.toNatClampNeg : Int32) fun y81 =>
              if y81 = (3 : Int32) then (
                LETV ((v7_34 + 1) : Int32) fun w83 =>
                L_sm_routeOn5_34_0 r5 t8 vh n (w83 : Int32) nu71
              ) else (
                LETV (1 <<< (v7_34 &&& 31) : Int32) fun t87 =>
                LETV (vh ||| t87 : Int32) fun t88 =>
                LETV (F_sm_routeOn6 nu71 (t88 : Int32) (r5 : Int32) : Nat → Nat → Int32) fun xi92 =>
                LETV (xi92 0 39 : Int32) fun y94 =>
                LETV (xi92 0 33 : Int32) fun y95 =>
                LETV (xi92 0 35 : Int32) fun y96 =>
                LETV ((v7_34 + 1) : Int32) fun w97 =>
                L_sm_routeOn5_34_0 r5 t8 vh n (w97 : Int32) xi92
              )
            )
          )
        )
      ) else (
        LETV ((v7_34 + 1) : Int32) fun w117 =>
        L_sm_routeOn5_34_0 r5 t8 vh n (w117 : Int32) nu34_
      )
    )
def F_sm_routeOn5 (mu : Nat → Nat → Int32) (vh : Int32) (vp : Int32) : Nat → Nat → Int32 :=
  LETV (mu 0 39 : Int32) fun y1 =>
  LETV (mu 0 33 : Int32) fun y2 =>
  LETV (mu 0 35 : Int32) fun y3 =>
  LETV (mu 16 (4 : Int32).toNatClampNeg : Int32) fun y4 =>
  LETV (F_sm_asksOf mu (y4 : Int32) (vp : Int32) : Int32) fun r5 =>
  LETV (F_sm_besideOf mu (y4 : Int32) : Int32) fun r6 =>
  LETV (vh ^^^ (-1) : Int32) fun t7 =>
  LETV (r6 &&& t7 : Int32) fun t8 =>
  L_sm_routeOn5_34_0 r5 t8 vh 10 (0 : Int32) mu
def L_sm_routeOn4_34_0 (r5 : Int32) (t8 : Int32) (vh : Int32) : Nat → (Int32) → (Nat → Nat → Int32) → Nat → Nat → Int32
  | 0, v7_34, nu34_ => nu34_
  | n + 1, v7_34, nu34_ =>
    LETV (nu34_ 0 39 : Int32) fun y9 =>
    LETV (nu34_ 0 33 : Int32) fun y10 =>
    LETV (nu34_ 0 35 : Int32) fun y11 =>
    LETV (nu34_ 0 8 : Int32) fun y12 =>
    if v7_34 ≥ y12 then (
      nu34_
    ) else (
      if F_sm_has (t8 : Int32) (v7_34 : Int32) = 1 then (
        LETV (nu34_ 0 38 : Int32) fun y18 =>
        if y18 = (0 : Int32) then (
          LETV (va_up nu34_ 16 (upd (nu34_ 16) (4 : Int32).toNatClampNeg v7_34) : Nat → Nat → Int32) fun nu20 =>
          LETV (nu20 0 29 : Int32) fun y27 =>
          if v7_34 = y27 then (
            LETV (nu20 16 (0 : Int32).toNatClampNeg : Int32) fun y49 =>
            LETV (1 <<< (y49 &&& 31) : Int32) fun t50 =>
            LETV (t50 ^^^ (-1) : Int32) fun t51 =>
            LETV (vh &&& t51 : Int32) fun t52 =>
            LETV (F_sm_meetRoute nu20 (5 : Int32) (t52 : Int32) (r5 : Int32) : Nat → Nat → Int32) fun xi56 =>
            LETV (xi56 0 39 : Int32) fun y58 =>
            LETV (xi56 0 33 : Int32) fun y59 =>
            LETV (xi56 0 35 : Int32) fun y60 =>
            LETV ((v7_34 + 1) : Int32) fun w61 =>
            L_sm_routeOn4_34_0 r5 t8 vh n (w61 : Int32) xi56
          ) else (
            LETV (nu20 7 v7_34.toNatClampNeg : Int32) fun y29 =>
            if y29 = (3 : Int32) then (
              LETV ((v7_34 + 1) : Int32) fun w31 =>
              L_sm_routeOn4_34_0 r5 t8 vh n (w31 : Int32) nu20
            ) else (
              LETV (1 <<< (v7_34 &&& 31) : Int32) fun t35 =>
              LETV (vh ||| t35 : Int32) fun t36 =>
              LETV (F_sm_routeOn5 nu20 (t36 : Int32) (r5 : Int32) : Nat → Nat → Int32) fun xi40 =>
              LETV (xi40 0 39 : Int32) fun y42 =>
              LETV (xi40 0 33 : Int32) fun y43 =>
              LETV (xi40 0 35 : Int32) fun y44 =>
              LETV ((v7_34 + 1) : Int32) fun w45 =>
              L_sm_routeOn4_34_0 r5 t8 vh n (w45 : Int32) xi40
            )
          )
        ) else (
          LETV (nu34_ 8 v7_34.toNatClampNeg : Int32) fun y65 =>
          if y65 < r5 then (
            LETV ((v7_34 + 1) : Int32) fun w67 =>
            L_sm_routeOn4_34_0 r5 t8 vh n (w67 : Int32) nu34_
          ) else (
            LETV (va_up nu34_ 16 (upd (nu34_ 16) (4 : Int32).toNatClampNeg v7_34) : Nat → Nat → Int32) fun nu71 =>
            LETV (nu71 0 29 : Int32) fun y79 =>
            if v7_34 = y79 then (
              LETV (nu71 16 (0 : Int32).toNatClampNeg : Int32) fun y101 =>
              LETV (1 <<< (y101 &&& 31) : Int32) fun t102 =>
              LETV (t102 ^^^ (-1) : Int32) fun t103 =>
              LETV (vh &&& t103 : Int32) fun t104 =>
              LETV (F_sm_meetRoute nu71 (5 : Int32) (t104 : Int32) (r5 : Int32) : Nat → Nat → Int32) fun xi108 =>
              LETV (xi108 0 39 : Int32) fun y110 =>
              LETV (xi108 0 33 : Int32) fun y111 =>
              LETV (xi108 0 35 : Int32) fun y112 =>
              LETV ((v7_34 + 1) : Int32) fun w113 =>
              L_sm_routeOn4_34_0 r5 t8 vh n (w113 : Int32) xi108
            ) else (
              LETV (nu71 7 v7_34.toNatClampNeg : Int32) fun y81 =>
              if y81 = (3 : Int32) then (
                LETV ((v7_34 + 1) : Int32) fun w83 =>
                L_sm_routeOn4_34_0 r5 t8 vh n (w83 : Int32) nu71
              ) else (
                LETV (1 <<< (v7_34 &&& 31) : Int32) fun t87 =>
                LETV (vh ||| t87 : Int32) fun t88 =>
                LETV (F_sm_routeOn5 nu71 (t88 : Int32) (r5 : Int32) : Nat → Nat → Int32) fun xi92 =>
                LETV (xi92 0 39 : Int32) fun y94 =>
                LETV (xi92 0 33 : Int32) fun y95 =>
                LETV (xi92 0 35 : Int32) fun y96 =>
                LETV ((v7_34 + 1) : Int32) fun w97 =>
                L_sm_routeOn4_34_0 r5 t8 vh n (w97 : Int32) xi92
              )
            )
          )
        )
      ) else (
        LETV ((v7_34 + 1) : Int32) fun w117 =>
        L_sm_routeOn4_34_0 r5 t8 vh n (w117 : Int32) nu34_
      )
    )
def F_sm_routeOn4 (mu : Nat → Nat → Int32) (vh : Int32) (vp : Int32) : Nat → Nat → Int32 :=
  LETV (mu 0 39 : Int32) fun y1 =>
  LETV (mu 0 33 : Int32) fun y2 =>
  LETV (mu 0 35 : Int32) fun y3 =>
  LETV (mu 16 (3 : Int32).toNatClampNeg : Int32) fun y4 =>
  LETV (F_sm_asksOf mu (y4 : Int32) (vp : Int32) : Int32) fun r5 =>
  LETV (F_sm_besideOf mu (y4 : Int32) : Int32) fun r6 =>
  LETV (vh ^^^ (-1) : Int32) fun t7 =>
  LETV (r6 &&& t7 : Int32) fun t8 =>
  L_sm_routeOn4_34_0 r5 t8 vh 10 (0 : Int32) mu
def L_sm_routeOn3_34_0 (r5 : Int32) (t8 : Int32) (vh : Int32) : Nat → (Int32) → (Nat → Nat → Int32) → Nat → Nat → Int32
  | 0, v7_34, nu34_ => nu34_
  | n + 1, v7_34, nu34_ =>
    LETV (nu34_ 0 39 : Int32) fun y9 =>
    LETV (nu34_ 0 33 : Int32) fun y10 =>
    LETV (nu34_ 0 35 : Int32) fun y11 =>
    LETV (nu34_ 0 8 : Int32) fun y12 =>
    if v7_34 ≥ y12 then (
      nu34_
    ) else (
      if F_sm_has (t8 : Int32) (v7_34 : Int32) = 1 then (
        LETV (nu34_ 0 38 : Int32) fun y18 =>
        if y18 = (0 : Int32) then (
          LETV (va_up nu34_ 16 (upd (nu34_ 16) (3 : Int32).toNatClampNeg v7_34) : Nat → Nat → Int32) fun nu20 =>
          LETV (nu20 0 29 : Int32) fun y27 =>
          if v7_34 = y27 then (
            LETV (nu20 16 (0 : Int32).toNatClampNeg : Int32) fun y49 =>
            LETV (1 <<< (y49 &&& 31) : Int32) fun t50 =>
            LETV (t50 ^^^ (-1) : Int32) fun t51 =>
            LETV (vh &&& t51 : Int32) fun t52 =>
            LETV (F_sm_meetRoute nu20 (4 : Int32) (t52 : Int32) (r5 : Int32) : Nat → Nat → Int32) fun xi56 =>
            LETV (xi56 0 39 : Int32) fun y58 =>
            LETV (xi56 0 33 : Int32) fun y59 =>
            LETV (xi56 0 35 : Int32) fun y60 =>
            LETV ((v7_34 + 1) : Int32) fun w61 =>
            L_sm_routeOn3_34_0 r5 t8 vh n (w61 : Int32) xi56
          ) else (
            LETV (nu20 7 v7_34.toNatClampNeg : Int32) fun y29 =>
            if y29 = (3 : Int32) then (
              LETV ((v7_34 + 1) : Int32) fun w31 =>
              L_sm_routeOn3_34_0 r5 t8 vh n (w31 : Int32) nu20
            ) else (
              LETV (1 <<< (v7_34 &&& 31) : Int32) fun t35 =>
              LETV (vh ||| t35 : Int32) fun t36 =>
              LETV (F_sm_routeOn4 nu20 (t36 : Int32) (r5 : Int32) : Nat → Nat → Int32) fun xi40 =>
              LETV (xi40 0 39 : Int32) fun y42 =>
              LETV (xi40 0 33 : Int32) fun y43 =>
              LETV (xi40 0 35 : Int32) fun y44 =>
              LETV ((v7_34 + 1) : Int32) fun w45 =>
              L_sm_routeOn3_34_0 r5 t8 vh n (w45 : Int32) xi40
            )
          )
        ) else (
          LETV (nu34_ 8 v7_34.toNatClampNeg : Int32) fun y65 =>
          if y65 < r5 then (
            LETV ((v7_34 + 1) : Int32) fun w67 =>
            L_sm_routeOn3_34_0 r5 t8 vh n (w67 : Int32) nu34_
          ) else (
            LETV (va_up nu34_ 16 (upd (nu34_ 16) (3 : Int32).toNatClampNeg v7_34) : Nat → Nat → Int32) fun nu71 =>
            LETV (nu71 0 29 : Int32) fun y79 =>
            if v7_34 = y79 then (
              LETV (nu71 16 (0 : Int32).toNatClampNeg : Int32) fun y101 =>
              LETV (1 <<< (y101 &&& 31) : Int32) fun t102 =>
              LETV (t102 ^^^ (-1) : Int32) fun t103 =>
              LETV (vh &&& t103 : Int32) fun t104 =>
              LETV (F_sm_meetRoute nu71 (4 : Int32) (t104 : Int32) (r5 : Int32) : Nat → Nat → Int32) fun xi108 =>
              LETV (xi108 0 39 : Int32) fun y110 =>
              LETV (xi108 0 33 : Int32) fun y111 =>
              LETV (xi108 0 35 : Int32) fun y112 =>
              LETV ((v7_34 + 1) : Int32) fun w113 =>
              L_sm_routeOn3_34_0 r5 t8 vh n (w113 : Int32) xi108
            ) else (
              LETV (nu71 7 v7_34.toNatClampNeg : Int32) fun y81 =>
              if y81 = (3 : Int32) then (
                LETV ((v7_34 + 1) : Int32) fun w83 =>
                L_sm_routeOn3_34_0 r5 t8 vh n (w83 : Int32) nu71
              ) else (
                LETV (1 <<< (v7_34 &&& 31) : Int32) fun t87 =>
                LETV (vh ||| t87 : Int32) fun t88 =>
                LETV (F_sm_routeOn4 nu71 (t88 : Int32) (r5 : Int32) : Nat → Nat → Int32) fun xi92 =>
                LETV (xi92 0 39 : Int32) fun y94 =>
                LETV (xi92 0 33 : Int32) fun y95 =>
                LETV (xi92 0 35 : Int32) fun y96 =>
                LETV ((v7_34 + 1) : Int32) fun w97 =>
                L_sm_routeOn3_34_0 r5 t8 vh n (w97 : Int32) xi92
              )
            )
          )
        )
      ) else (
        LETV ((v7_34 + 1) : Int32) fun w117 =>
        L_sm_routeOn3_34_0 r5 t8 vh n (w117 : Int32) nu34_
      )
    )
def F_sm_routeOn3 (mu : Nat → Nat → Int32) (vh : Int32) (vp : Int32) : Nat → Nat → Int32 :=
  LETV (mu 0 39 : Int32) fun y1 =>
  LETV (mu 0 33 : Int32) fun y2 =>
  LETV (mu 0 35 : Int32) fun y3 =>
  LETV (mu 16 (2 : Int32).toNatClampNeg : Int32) fun y4 =>
  LETV (F_sm_asksOf mu (y4 : Int32) (vp : Int32) : Int32) fun r5 =>
  LETV (F_sm_besideOf mu (y4 : Int32) : Int32) fun r6 =>
  LETV (vh ^^^ (-1) : Int32) fun t7 =>
  LETV (r6 &&& t7 : Int32) fun t8 =>
  L_sm_routeOn3_34_0 r5 t8 vh 10 (0 : Int32) mu
def L_sm_routeOn2_34_0 (r5 : Int32) (t8 : Int32) (vh : Int32) : Nat → (Int32) → (Nat → Nat → Int32) → Nat → Nat → Int32
  | 0, v7_34, nu34_ => nu34_
  | n + 1, v7_34, nu34_ =>
    LETV (nu34_ 0 39 : Int32) fun y9 =>
    LETV (nu34_ 0 33 : Int32) fun y10 =>
    LETV (nu34_ 0 35 : Int32) fun y11 =>
    LETV (nu34_ 0 8 : Int32) fun y12 =>
    if v7_34 ≥ y12 then (
      nu34_
    ) else (
      if F_sm_has (t8 : Int32) (v7_34 : Int32) = 1 then (
        LETV (nu34_ 0 38 : Int32) fun y18 =>
        if y18 = (0 : Int32) then (
          LETV (va_up nu34_ 16 (upd (nu34_ 16) (2 : Int32).toNatClampNeg v7_34) : Nat → Nat → Int32) fun nu20 =>
          LETV (nu20 0 29 : Int32) fun y27 =>
          if v7_34 = y27 then (
            LETV (nu20 16 (0 : Int32).toNatClampNeg : Int32) fun y49 =>
            LETV (1 <<< (y49 &&& 31) : Int32) fun t50 =>
            LETV (t50 ^^^ (-1) : Int32) fun t51 =>
            LETV (vh &&& t51 : Int32) fun t52 =>
            LETV (F_sm_meetRoute nu20 (3 : Int32) (t52 : Int32) (r5 : Int32) : Nat → Nat → Int32) fun xi56 =>
            LETV (xi56 0 39 : Int32) fun y58 =>
            LETV (xi56 0 33 : Int32) fun y59 =>
            LETV (xi56 0 35 : Int32) fun y60 =>
            LETV ((v7_34 + 1) : Int32) fun w61 =>
            L_sm_routeOn2_34_0 r5 t8 vh n (w61 : Int32) xi56
          ) else (
            LETV (nu20 7 v7_34.toNatClampNeg : Int32) fun y29 =>
            if y29 = (3 : Int32) then (
              LETV ((v7_34 + 1) : Int32) fun w31 =>
              L_sm_routeOn2_34_0 r5 t8 vh n (w31 : Int32) nu20
            ) else (
              LETV (1 <<< (v7_34 &&& 31) : Int32) fun t35 =>
              LETV (vh ||| t35 : Int32) fun t36 =>
              LETV (F_sm_routeOn3 nu20 (t36 : Int32) (r5 : Int32) : Nat → Nat → Int32) fun xi40 =>
              LETV (xi40 0 39 : Int32) fun y42 =>
              LETV (xi40 0 33 : Int32) fun y43 =>
              LETV (xi40 0 35 : Int32) fun y44 =>
              LETV ((v7_34 + 1) : Int32) fun w45 =>
              L_sm_routeOn2_34_0 r5 t8 vh n (w45 : Int32) xi40
            )
          )
        ) else (
          LETV (nu34_ 8 v7_34.toNatClampNeg : Int32) fun y65 =>
          if y65 < r5 then (
            LETV ((v7_34 + 1) : Int32) fun w67 =>
            L_sm_routeOn2_34_0 r5 t8 vh n (w67 : Int32) nu34_
          ) else (
            LETV (va_up nu34_ 16 (upd (nu34_ 16) (2 : Int32).toNatClampNeg v7_34) : Nat → Nat → Int32) fun nu71 =>
            LETV (nu71 0 29 : Int32) fun y79 =>
            if v7_34 = y79 then (
              LETV (nu71 16 (0 : Int32).toNatClampNeg : Int32) fun y101 =>
              LETV (1 <<< (y101 &&& 31) : Int32) fun t102 =>
              LETV (t102 ^^^ (-1) : Int32) fun t103 =>
              LETV (vh &&& t103 : Int32) fun t104 =>
              LETV (F_sm_meetRoute nu71 (3 : Int32) (t104 : Int32) (r5 : Int32) : Nat → Nat → Int32) fun xi108 =>
              LETV (xi108 0 39 : Int32) fun y110 =>
              LETV (xi108 0 33 : Int32) fun y111 =>
              LETV (xi108 0 35 : Int32) fun y112 =>
              LETV ((v7_34 + 1) : Int32) fun w113 =>
              L_sm_routeOn2_34_0 r5 t8 vh n (w113 : Int32) xi108
            ) else (
              LETV (nu71 7 v7_34.toNatClampNeg : Int32) fun y81 =>
              if y81 = (3 : Int32) then (
                LETV ((v7_34 + 1) : Int32) fun w83 =>
                L_sm_routeOn2_34_0 r5 t8 vh n (w83 : Int32) nu71
              ) else (
                LETV (1 <<< (v7_34 &&& 31) : Int32) fun t87 =>
                LETV (vh ||| t87 : Int32) fun t88 =>
                LETV (F_sm_routeOn3 nu71 (t88 : Int32) (r5 : Int32) : Nat → Nat → Int32) fun xi92 =>
                LETV (xi92 0 39 : Int32) fun y94 =>
                LETV (xi92 0 33 : Int32) fun y95 =>
                LETV (xi92 0 35 : Int32) fun y96 =>
                LETV ((v7_34 + 1) : Int32) fun w97 =>
                L_sm_routeOn2_34_0 r5 t8 vh n (w97 : Int32) xi92
              )
            )
          )
        )
      ) else (
        LETV ((v7_34 + 1) : Int32) fun w117 =>
        L_sm_routeOn2_34_0 r5 t8 vh n (w117 : Int32) nu34_
      )
    )
def F_sm_routeOn2 (mu : Nat → Nat → Int32) (vh : Int32) (vp : Int32) : Nat → Nat → Int32 :=
  LETV (mu 0 39 : Int32) fun y1 =>
  LETV (mu 0 33 : Int32) fun y2 =>
  LETV (mu 0 35 : Int32) fun y3 =>
  LETV (mu 16 (1 : Int32).toNatClampNeg : Int32) fun y4 =>
  LETV (F_sm_asksOf mu (y4 : Int32) (vp : Int32) : Int32) fun r5 =>
  LETV (F_sm_besideOf mu (y4 : Int32) : Int32) fun r6 =>
  LETV (vh ^^^ (-1) : Int32) fun t7 =>
  LETV (r6 &&& t7 : Int32) fun t8 =>
  L_sm_routeOn2_34_0 r5 t8 vh 10 (0 : Int32) mu
def L_sm_routeOn1_34_0 (r5 : Int32) (t8 : Int32) (vh : Int32) : Nat → (Int32) → (Nat → Nat → Int32) → Nat → Nat → Int32
  | 0, v7_34, nu34_ => nu34_
  | n + 1, v7_34, nu34_ =>
    LETV (nu34_ 0 39 : Int32) fun y9 =>
    LETV (nu34_ 0 33 : Int32) fun y10 =>
    LETV (nu34_ 0 35 : Int32) fun y11 =>
    LETV (nu34_ 0 8 : Int32) fun y12 =>
    if v7_34 ≥ y12 then (
      nu34_
    ) else (
      if F_sm_has (t8 : Int32) (v7_34 : Int32) = 1 then (
        LETV (nu34_ 0 38 : Int32) fun y18 =>
        if y18 = (0 : Int32) then (
          LETV (va_up nu34_ 16 (upd (nu34_ 16) (1 : Int32).toNatClampNeg v7_34) : Nat → Nat → Int32) fun nu20 =>
          LETV (nu20 0 29 : Int32) fun y27 =>
          if v7_34 = y27 then (
            LETV (nu20 16 (0 : Int32).toNatClampNeg : Int32) fun y49 =>
            LETV (1 <<< (y49 &&& 31) : Int32) fun t50 =>
            LETV (t50 ^^^ (-1) : Int32) fun t51 =>
            LETV (vh &&& t51 : Int32) fun t52 =>
            LETV (F_sm_meetRoute nu20 (2 : Int32) (t52 : Int32) (r5 : Int32) : Nat → Nat → Int32) fun xi56 =>
            LETV (xi56 0 39 : Int32) fun y58 =>
            LETV (xi56 0 33 : Int32) fun y59 =>
            LETV (xi56 0 35 : Int32) fun y60 =>
            LETV ((v7_34 + 1) : Int32) fun w61 =>
            L_sm_routeOn1_34_0 r5 t8 vh n (w61 : Int32) xi56
          ) else (
            LETV (nu20 7 v7_34.toNatClampNeg : Int32) fun y29 =>
            if y29 = (3 : Int32) then (
              LETV ((v7_34 + 1) : Int32) fun w31 =>
              L_sm_routeOn1_34_0 r5 t8 vh n (w31 : Int32) nu20
            ) else (
              LETV (1 <<< (v7_34 &&& 31) : Int32) fun t35 =>
              LETV (vh ||| t35 : Int32) fun t36 =>
              LETV (F_sm_routeOn2 nu20 (t36 : Int32) (r5 : Int32) : Nat → Nat → Int32) fun xi40 =>
              LETV (xi40 0 39 : Int32) fun y42 =>
              LETV (xi40 0 33 : Int32) fun y43 =>
              LETV (xi40 0 35 : Int32) fun y44 =>
              LETV ((v7_34 + 1) : Int32) fun w45 =>
              L_sm_routeOn1_34_0 r5 t8 vh n (w45 : Int32) xi40
            )
          )
        ) else (
          LETV (nu34_ 8 v7_34.toNatClampNeg : Int32) fun y65 =>
          if y65 < r5 then (
            LETV ((v7_34 + 1) : Int32) fun w67 =>
            L_sm_routeOn1_34_0 r5 t8 vh n (w67 : Int32) nu34_
          ) else (
            LETV (va_up nu34_ 16 (upd (nu34_ 16) (1 : Int32).toNatClampNeg v7_34) : Nat → Nat → Int32) fun nu71 =>
            LETV (nu71 0 29 : Int32) fun y79 =>
            if v7_34 = y79 then (
              LETV (nu71 16 (0 : Int32).toNatClampNeg : Int32) fun y101 =>
              LETV (1 <<< (y101 &&& 31) : Int32) fun t102 =>
              LETV (t102 ^^^ (-1) : Int32) fun t103 =>
              LETV (vh &&& t103 : Int32) fun t104 =>
              LETV (F_sm_meetRoute nu71 (2 : Int32) (t104 : Int32) (r5 : Int32) : Nat → Nat → Int32) fun xi108 =>
              LETV (xi108 0 39 : Int32) fun y110 =>
              LETV (xi108 0 33 : Int32) fun y111 =>
              LETV (xi108 0 35 : Int32) fun y112 =>
              LETV ((v7_34 + 1) : Int32) fun w113 =>
              L_sm_routeOn1_34_0 r5 t8 vh n (w113 : Int32) xi108
            ) else (
              LETV (nu71 7 v7_34.toNatClampNeg : Int32) fun y81 =>
              if y81 = (3 : Int32) then (
                LETV ((v7_34 + 1) : Int32) fun w83 =>
                L_sm_routeOn1_34_0 r5 t8 vh n (w83 : Int32) nu71
              ) else (
                LETV (1 <<< (v7_34 &&& 31) : Int32) fun t87 =>
                LETV (vh ||| t87 : Int32) fun t88 =>
                LETV (F_sm_routeOn2 nu71 (t88 : Int32) (r5 : Int32) : Nat → Nat → Int32) fun xi92 =>
                LETV (xi92 0 39 : Int32) fun y94 =>
                LETV (xi92 0 33 : Int32) fun y95 =>
                LETV (xi92 0 35 : Int32) fun y96 =>
                LETV ((v7_34 + 1) : Int32) fun w97 =>
                L_sm_routeOn1_34_0 r5 t8 vh n (w97 : Int32) xi92
              )
            )
          )
        )
      ) else (
        LETV ((v7_34 + 1) : Int32) fun w117 =>
        L_sm_routeOn1_34_0 r5 t8 vh n (w117 : Int32) nu34_
      )
    )
def F_sm_routeOn1 (mu : Nat → Nat → Int32) (vh : Int32) (vp : Int32) : Nat → Nat → Int32 :=
  LETV (mu 0 39 : Int32) fun y1 =>
  LETV (mu 0 33 : Int32) fun y2 =>
  LETV (mu 0 35 : Int32) fun y3 =>
  LETV (mu 16 (0 : Int32).toNatClampNeg : Int32) fun y4 =>
  LETV (F_sm_asksOf mu (y4 : Int32) (vp : Int32) : Int32) fun r5 =>
  LETV (F_sm_besideOf mu (y4 : Int32) : Int32) fun r6 =>
  LETV (vh ^^^ (-1) : Int32) fun t7 =>
  LETV (r6 &&& t7 : Int32) fun t8 =>
  L_sm_routeOn1_34_0 r5 t8 vh 10 (0 : Int32) mu
